abbrev ck_Q : Type := Int32 × Int32 × Int32 × Int32
def ck_q4 (M : Nat → Int32) (q : ck_Q) : Nat → Int32 := fun j => if j = 76 then q.1 else if j = 77 then q.2.1 else if j = 78 then q.2.2.1 else if j = 79 then q.2.2.2 else M j
theorem ck_q4_76 {M : Nat → Int32} {a b c d x : Int32} : upd (ck_q4 M (a, b, c, d)) 76 x = ck_q4 M (x, b, c, d) := by
  funext j; unfold upd ck_q4; split <;> rfl
theorem ck_q4_77 {M : Nat → Int32} {a b c d x : Int32} : upd (ck_q4 M (a, b, c, d)) 77 x = ck_q4 M (a, x, c, d) := by
  funext j; unfold upd ck_q4; by_cases h : j = 77
  · subst h; simp
  · simp [h]
theorem ck_q4_78 {M : Nat → Int32} {a b c d x : Int32} : upd (ck_q4 M (a, b, c, d)) 78 x = ck_q4 M (a, b, x, d) := by
  funext j; unfold upd ck_q4; by_cases h : j = 78
  · subst h; simp
  · simp [h]
theorem ck_q4_79 {M : Nat → Int32} {a b c d x : Int32} : upd (ck_q4 M (a, b, c, d)) 79 x = ck_q4 M (a, b, c, x) := by
  funext j; unfold upd ck_q4; by_cases h : j = 79
  · subst h; simp
  · simp [h]
theorem ck_q4_0 {M : Nat → Int32} : upd (upd M 76 (-1)) 77 (-1) = ck_q4 M (-1, -1, M 78, M 79) := by
  funext j; unfold upd ck_q4
  by_cases h : j = 76
  · subst h; rfl
  · by_cases h2 : j = 77
    · subst h2; rfl
    · by_cases h3 : j = 78
      · subst h3; rfl
      · by_cases h4 : j = 79
        · subst h4; rfl
        · simp [h, h2, h3, h4]
theorem ck_q4r_76 {M : Nat → Int32} {a b c d : Int32} : ck_q4 M (a, b, c, d) 76 = a := rfl
theorem ck_q4r_77 {M : Nat → Int32} {a b c d : Int32} : ck_q4 M (a, b, c, d) 77 = b := rfl
theorem ck_q4r_78 {M : Nat → Int32} {a b c d : Int32} : ck_q4 M (a, b, c, d) 78 = c := rfl
theorem ck_q4r_79 {M : Nat → Int32} {a b c d : Int32} : ck_q4 M (a, b, c, d) 79 = d := rfl
theorem ck_q4r_71 {M : Nat → Int32} {q : ck_Q} : ck_q4 M q 71 = M 71 := rfl
def ck_ft1 (q : ck_Q) (m e : Int32) : ck_Q := if m = q.2.1 then (q.1, q.2.1, q.2.2.1, e) else if q.2.1 < m then (q.2.1, m, q.2.2.2, e) else if q.1 ≤ m then (m, q.2.1, e, q.2.2.2) else q
def ck_ft (A : Nat → Nat → Int32) (c t e1 e2 : Int32) : Nat → ck_Q
  | 0 => (-1, -1, e1, e2)
  | k + 1 => if A 130 k = c then (if A 133 k ≤ t then ck_ft1 (ck_ft A c t e1 e2 k) (A 131 k) (A 132 k) else ck_ft A c t e1 e2 k) else ck_ft A c t e1 e2 k
def ck_dn (a b : Int64) : Int64 := if a < a / b * b then a / b - 1 else a / b
def ck_rk (q : ck_Q) (i : Int32) : Int64 := if q.1 = -1 then q.2.2.2.toInt64 else q.2.2.2.toInt64 + ck_dn ((q.2.2.2 - q.2.2.1).toInt64 * (i - q.2.1).toInt64) (q.2.1 - q.1).toInt64
def ck_sp (q : ck_Q) : Int64 := ck_dn ((q.2.2.2 - q.2.2.1).toInt64 * 1000) (60 * (q.2.1 - q.1).toInt64)
def bX11_findTwo_0 : List kx_O := [(.aload_n 0, 0, 0, 0, .null), (.iconst (-1), 0, 0, 0, .int (-1)), (.putfield 535, 11, 76, 0, .null), (.aload_n 0, 0, 0, 0, .null), (.iconst (-1), 0, 0, 0, .int (-1)), (.putfield 538, 11, 77, 0, .null), (.iconst 0, 0, 0, 0, .int 0), (.istore_n 3, 3, 0, 0, .null)]
theorem kX11_findTwo_0 : kx_oks kxL_X11 false cX11_findTwo 0 bX11_findTwo_0 = true := by decide +kernel
def bX11_findTwo_12 : List kx_O := [(.iload_n 3, 3, 0, 0, .null), (.aload_n 0, 0, 0, 0, .null), (.getfield 533, 11, 71, 0, .null), (.if_icmp .ge 131, 148, 0, 0, .null)]
theorem kX11_findTwo_12 : kx_oks kxL_X11 false cX11_findTwo 12 bX11_findTwo_12 = true := by decide +kernel
def bX11_findTwo_20 : List kx_O := [(.aload_n 0, 0, 0, 0, .null), (.getfield 128, 11, 72, 0, .null), (.iload_n 3, 3, 0, 0, .null), (.iaload, 0, 0, 0, .null), (.iload_n 1, 1, 0, 0, .null), (.if_icmp .ne 115, 142, 0, 0, .null)]
theorem kX11_findTwo_20 : kx_oks kxL_X11 false cX11_findTwo 20 bX11_findTwo_20 = true := by decide +kernel
def bX11_findTwo_30 : List kx_O := [(.aload_n 0, 0, 0, 0, .null), (.getfield 137, 11, 75, 0, .null), (.iload_n 3, 3, 0, 0, .null), (.iaload, 0, 0, 0, .null), (.iload_n 2, 2, 0, 0, .null), (.if_icmp .le 6, 43, 0, 0, .null)]
theorem kX11_findTwo_30 : kx_oks kxL_X11 false cX11_findTwo 30 bX11_findTwo_30 = true := by decide +kernel
def bX11_findTwo_40 : List kx_O := [(.goto 102, 142, 0, 0, .null)]
theorem kX11_findTwo_40 : kx_oks kxL_X11 false cX11_findTwo 40 bX11_findTwo_40 = true := by decide +kernel
def bX11_findTwo_43 : List kx_O := [(.aload_n 0, 0, 0, 0, .null), (.getfield 131, 11, 73, 0, .null), (.iload_n 3, 3, 0, 0, .null), (.iaload, 0, 0, 0, .null), (.istore 4, 4, 0, 0, .null), (.iload 4, 4, 0, 0, .null), (.aload_n 0, 0, 0, 0, .null), (.getfield 538, 11, 77, 0, .null), (.if_icmp .ne 16, 73, 0, 0, .null)]
theorem kX11_findTwo_43 : kx_oks kxL_X11 false cX11_findTwo 43 bX11_findTwo_43 = true := by decide +kernel
def bX11_findTwo_60 : List kx_O := [(.aload_n 0, 0, 0, 0, .null), (.aload_n 0, 0, 0, 0, .null), (.getfield 134, 11, 74, 0, .null), (.iload_n 3, 3, 0, 0, .null), (.iaload, 0, 0, 0, .null), (.putfield 541, 11, 79, 0, .null), (.goto 72, 142, 0, 0, .null)]
theorem kX11_findTwo_60 : kx_oks kxL_X11 false cX11_findTwo 60 bX11_findTwo_60 = true := by decide +kernel
def bX11_findTwo_73 : List kx_O := [(.iload 4, 4, 0, 0, .null), (.aload_n 0, 0, 0, 0, .null), (.getfield 538, 11, 77, 0, .null), (.if_icmp .le 38, 117, 0, 0, .null)]
theorem kX11_findTwo_73 : kx_oks kxL_X11 false cX11_findTwo 73 bX11_findTwo_73 = true := by decide +kernel
def bX11_findTwo_82 : List kx_O := [(.aload_n 0, 0, 0, 0, .null), (.aload_n 0, 0, 0, 0, .null), (.getfield 538, 11, 77, 0, .null), (.putfield 535, 11, 76, 0, .null), (.aload_n 0, 0, 0, 0, .null), (.aload_n 0, 0, 0, 0, .null), (.getfield 541, 11, 79, 0, .null), (.putfield 544, 11, 78, 0, .null), (.aload_n 0, 0, 0, 0, .null), (.iload 4, 4, 0, 0, .null), (.putfield 538, 11, 77, 0, .null), (.aload_n 0, 0, 0, 0, .null), (.aload_n 0, 0, 0, 0, .null), (.getfield 134, 11, 74, 0, .null), (.iload_n 3, 3, 0, 0, .null), (.iaload, 0, 0, 0, .null), (.putfield 541, 11, 79, 0, .null), (.goto 28, 142, 0, 0, .null)]
theorem kX11_findTwo_82 : kx_oks kxL_X11 false cX11_findTwo 82 bX11_findTwo_82 = true := by decide +kernel
def bX11_findTwo_117 : List kx_O := [(.iload 4, 4, 0, 0, .null), (.aload_n 0, 0, 0, 0, .null), (.getfield 535, 11, 76, 0, .null), (.if_icmp .lt 19, 142, 0, 0, .null)]
theorem kX11_findTwo_117 : kx_oks kxL_X11 false cX11_findTwo 117 bX11_findTwo_117 = true := by decide +kernel
def bX11_findTwo_126 : List kx_O := [(.aload_n 0, 0, 0, 0, .null), (.iload 4, 4, 0, 0, .null), (.putfield 535, 11, 76, 0, .null), (.aload_n 0, 0, 0, 0, .null), (.aload_n 0, 0, 0, 0, .null), (.getfield 134, 11, 74, 0, .null), (.iload_n 3, 3, 0, 0, .null), (.iaload, 0, 0, 0, .null), (.putfield 544, 11, 78, 0, .null)]
theorem kX11_findTwo_126 : kx_oks kxL_X11 false cX11_findTwo 126 bX11_findTwo_126 = true := by decide +kernel
def bX11_findTwo_142 : List kx_O := [(.iinc 3 1, 3, 0, 0, .int 1), (.goto (-133), 12, 0, 0, .null)]
theorem kX11_findTwo_142 : kx_oks kxL_X11 false cX11_findTwo 142 bX11_findTwo_142 = true := by decide +kernel
def bX11_findTwo_148 : List kx_O := [(.return_, 0, 0, 0, .null)]
theorem kX11_findTwo_148 : kx_oks kxL_X11 false cX11_findTwo 148 bX11_findTwo_148 = true := by decide +kernel
set_option maxRecDepth 100000 in
set_option maxHeartbeats 4000000 in
theorem ct_X11_findTwo (l : Launch) (G : kx_G) {M : Nat → Int32} {A : Nat → Nat → Int32} {L : Nat → Nat → Int64} {R : kx_P} {sz : Nat} {c t : Int32} {n : Nat} (h71 : M 71 = nI n) (hn : n ≤ 100)  : kx_M l G sX11_findTwo 1 0 0 [.ref 93, .int (c), .int (t)] (mW M A L R) sz none (mW (ck_q4 M (ck_ft A c t (M 78) (M 79) n)) A L R) sz := by
  refine kx_mk kx_tab kxLok_X11 (ini := false) [some (.ref 93), some (.int (c)), some (.int (t)), none, none] ⟨by decide, rfl, by decide, by decide⟩ (rfl) rfl rfl (fun g hB hC => ?_)
  have loop12 : ∀ (n9 : Nat) (k : Nat) (x4 : Option Value), k + n9 = n → g 12 [some (.ref 93), some (.int c), some (.int t), some (.int (nI k)), x4] [] (mW (ck_q4 M (ck_ft A c t (M 78) (M 79) k)) A L R) sz 0 0 := by
    intro n9
    induction n9 with
    | zero =>
      intro k x4 hk
      have hk40 : k < 2 ^ 31 := by omega
      obtain rfl : k = n := by omega
      refine hB bX11_findTwo_12 _ _ _ _ _ _ _ kX11_findTwo_12 ?_
      dsimp only [bX11_findTwo_12, kx_wp, kx_step, kx_lI, kx_lL, kx_lA, kx_gl, kx_pI, kx_pL, kx_pR, kx_pA, kx_pV, kx_s1, kx_s2, kx_sl, kx_pre, kx_c2, kx_pl, kx_cmp, kx_oF, kx_eqN, kx_nil, kx_c1, kx_ft, kx_aI, kx_aL, kx_aR, kx_ln, Nat.reduceAdd, Option.toList, List.cons_append, List.nil_append, mW_o, mf_76, mf_77, mf_71, mf_72, m_130, mf_75, m_133, mf_73, m_131, mf_74, m_132, mf_79, mf_78]
      repeat (simp only [mu_76, mW_so, mu_77, ms_130, ms_133, ms_131, ms_132, mu_79, mu_78, ck_q4_76, ck_q4_77, ck_q4_78, ck_q4_79, ck_q4_0, ck_q4r_76, ck_q4r_77, ck_q4r_78, ck_q4r_79, ck_q4r_71, h71, nI_1, nI_clamp hk40]; try dsimp only [kx_wp, kx_step, kx_lI, kx_lL, kx_lA, kx_gl, kx_pI, kx_pL, kx_pR, kx_pA, kx_pV, kx_s1, kx_s2, kx_sl, kx_pre, kx_c2, kx_pl, kx_cmp, kx_oF, kx_eqN, kx_nil, kx_c1, kx_ft, kx_aI, kx_aL, kx_aR, kx_ln, Nat.reduceAdd, Option.toList, List.cons_append, List.nil_append, mW_o, mf_76, mf_77, mf_71, mf_72, m_130, mf_75, m_133, mf_73, m_131, mf_74, m_132, mf_79, mf_78])
      repeat' apply And.intro
      all_goals try (first | with_reducible assumption | (with_reducible refine ck_nzI ?_; simp; done) | (with_reducible refine ck_nzL ?_; simp; done) | (with_reducible refine vp_in_nI ?_ ?_ <;> first | omega | decide) | (with_reducible refine Nat.le_of_ble_eq_true ?_; rfl) | omega)
      · intro zc17
        with_reducible first | have ze17 := Int32.not_lt.mpr zc17 | have ze17 := Int32.not_le.mpr zc17 | have ze17 := Int32.not_le.mp zc17 | have ze17 := Int32.not_lt.mp zc17 | have ze17 := Int64.not_lt.mpr zc17 | have ze17 := Int64.not_le.mpr zc17 | have ze17 := Int64.not_le.mp zc17 | have ze17 := Int64.not_lt.mp zc17 | have ze17 := Decidable.not_not.mp zc17 | have ze17 := zc17
        refine hB bX11_findTwo_148 _ _ _ _ _ _ _ kX11_findTwo_148 ?_
        dsimp only [bX11_findTwo_148, kx_wp, kx_step, kx_lI, kx_lL, kx_lA, kx_gl, kx_pI, kx_pL, kx_pR, kx_pA, kx_pV, kx_s1, kx_s2, kx_sl, kx_pre, kx_c2, kx_pl, kx_cmp, kx_oF, kx_eqN, kx_nil, kx_c1, kx_ft, kx_aI, kx_aL, kx_aR, kx_ln, Nat.reduceAdd, Option.toList, List.cons_append, List.nil_append, mW_o, mf_76, mf_77, mf_71, mf_72, m_130, mf_75, m_133, mf_73, m_131, mf_74, m_132, mf_79, mf_78]
        repeat (simp only [mu_76, mW_so, mu_77, ms_130, ms_133, ms_131, ms_132, mu_79, mu_78, ck_q4_76, ck_q4_77, ck_q4_78, ck_q4_79, ck_q4_0, ck_q4r_76, ck_q4r_77, ck_q4r_78, ck_q4r_79, ck_q4r_71, h71, nI_1, nI_clamp hk40]; try dsimp only [kx_wp, kx_step, kx_lI, kx_lL, kx_lA, kx_gl, kx_pI, kx_pL, kx_pR, kx_pA, kx_pV, kx_s1, kx_s2, kx_sl, kx_pre, kx_c2, kx_pl, kx_cmp, kx_oF, kx_eqN, kx_nil, kx_c1, kx_ft, kx_aI, kx_aL, kx_aR, kx_ln, Nat.reduceAdd, Option.toList, List.cons_append, List.nil_append, mW_o, mf_76, mf_77, mf_71, mf_72, m_130, mf_75, m_133, mf_73, m_131, mf_74, m_132, mf_79, mf_78])
        all_goals (repeat' apply And.intro)
        all_goals ((try clear hB hC); first | exact True.intro | with_reducible rfl | with_reducible assumption | (with_reducible refine vp_in_nI ?_ ?_ <;> first | omega | decide) | exact Nat.le_of_ble_eq_true rfl | (with_reducible refine ck_nzI ?_; simp; done) | (with_reducible refine ck_nzL ?_; simp; done) | (simp only [pk_us, pk_uLs, zc17, ze17, ↓reduceIte, not_true_eq_false, not_false_eq_true]; done) | (simp only [zc17, ze17, ↓reduceIte, not_true_eq_false, not_false_eq_true]; with_reducible rfl) | skip)
      · intro zc17
        first | exact absurd rfl zc17 | exact absurd zc17 (by decide) | exact absurd (by decide) zc17 | (exfalso; exact absurd zc17 (by first | (simp only [nI_leI (show n < 2 ^ 31 by omega) hk40]; omega) | (simp only [nI_leI (show n < 2 ^ 31 by omega) hk40, Decidable.not_not]; omega))) | (exfalso; simp_all; done)
    | succ n9 ih =>
      intro k x4 hk
      have hk40 : k < 2 ^ 31 := by omega
      rcases hb : ck_ft A c t (M 78) (M 79) k with ⟨a, b, x, y⟩
      refine hB bX11_findTwo_12 _ _ _ _ _ _ _ kX11_findTwo_12 ?_
      dsimp only [bX11_findTwo_12, kx_wp, kx_step, kx_lI, kx_lL, kx_lA, kx_gl, kx_pI, kx_pL, kx_pR, kx_pA, kx_pV, kx_s1, kx_s2, kx_sl, kx_pre, kx_c2, kx_pl, kx_cmp, kx_oF, kx_eqN, kx_nil, kx_c1, kx_ft, kx_aI, kx_aL, kx_aR, kx_ln, Nat.reduceAdd, Option.toList, List.cons_append, List.nil_append, mW_o, mf_76, mf_77, mf_71, mf_72, m_130, mf_75, m_133, mf_73, m_131, mf_74, m_132, mf_79, mf_78]
      repeat (simp only [mu_76, mW_so, mu_77, ms_130, ms_133, ms_131, ms_132, mu_79, mu_78, ck_q4_76, ck_q4_77, ck_q4_78, ck_q4_79, ck_q4_0, ck_q4r_76, ck_q4r_77, ck_q4r_78, ck_q4r_79, ck_q4r_71, h71, nI_1, nI_clamp hk40]; try dsimp only [kx_wp, kx_step, kx_lI, kx_lL, kx_lA, kx_gl, kx_pI, kx_pL, kx_pR, kx_pA, kx_pV, kx_s1, kx_s2, kx_sl, kx_pre, kx_c2, kx_pl, kx_cmp, kx_oF, kx_eqN, kx_nil, kx_c1, kx_ft, kx_aI, kx_aL, kx_aR, kx_ln, Nat.reduceAdd, Option.toList, List.cons_append, List.nil_append, mW_o, mf_76, mf_77, mf_71, mf_72, m_130, mf_75, m_133, mf_73, m_131, mf_74, m_132, mf_79, mf_78])
      repeat' apply And.intro
      all_goals try (first | with_reducible assumption | (with_reducible refine ck_nzI ?_; simp; done) | (with_reducible refine ck_nzL ?_; simp; done) | (with_reducible refine vp_in_nI ?_ ?_ <;> first | omega | decide) | (with_reducible refine Nat.le_of_ble_eq_true ?_; rfl) | omega)
      · intro zc17
        first | exact absurd rfl zc17 | exact absurd zc17 (by decide) | exact absurd (by decide) zc17 | (exfalso; exact absurd zc17 (by first | (simp only [nI_leI (show n < 2 ^ 31 by omega) hk40]; omega) | (simp only [nI_leI (show n < 2 ^ 31 by omega) hk40, Decidable.not_not]; omega))) | (exfalso; simp_all; done)
      · intro zc17
        with_reducible first | have ze17 := Int32.not_lt.mpr zc17 | have ze17 := Int32.not_le.mpr zc17 | have ze17 := Int32.not_le.mp zc17 | have ze17 := Int32.not_lt.mp zc17 | have ze17 := Int64.not_lt.mpr zc17 | have ze17 := Int64.not_le.mpr zc17 | have ze17 := Int64.not_le.mp zc17 | have ze17 := Int64.not_lt.mp zc17 | have ze17 := Decidable.not_not.mp zc17 | have ze17 := zc17
        refine hB bX11_findTwo_20 _ _ _ _ _ _ _ kX11_findTwo_20 ?_
        dsimp only [bX11_findTwo_20, kx_wp, kx_step, kx_lI, kx_lL, kx_lA, kx_gl, kx_pI, kx_pL, kx_pR, kx_pA, kx_pV, kx_s1, kx_s2, kx_sl, kx_pre, kx_c2, kx_pl, kx_cmp, kx_oF, kx_eqN, kx_nil, kx_c1, kx_ft, kx_aI, kx_aL, kx_aR, kx_ln, Nat.reduceAdd, Option.toList, List.cons_append, List.nil_append, mW_o, mf_76, mf_77, mf_71, mf_72, m_130, mf_75, m_133, mf_73, m_131, mf_74, m_132, mf_79, mf_78]
        repeat (simp only [mu_76, mW_so, mu_77, ms_130, ms_133, ms_131, ms_132, mu_79, mu_78, ck_q4_76, ck_q4_77, ck_q4_78, ck_q4_79, ck_q4_0, ck_q4r_76, ck_q4r_77, ck_q4r_78, ck_q4r_79, ck_q4r_71, h71, nI_1, nI_clamp hk40]; try dsimp only [kx_wp, kx_step, kx_lI, kx_lL, kx_lA, kx_gl, kx_pI, kx_pL, kx_pR, kx_pA, kx_pV, kx_s1, kx_s2, kx_sl, kx_pre, kx_c2, kx_pl, kx_cmp, kx_oF, kx_eqN, kx_nil, kx_c1, kx_ft, kx_aI, kx_aL, kx_aR, kx_ln, Nat.reduceAdd, Option.toList, List.cons_append, List.nil_append, mW_o, mf_76, mf_77, mf_71, mf_72, m_130, mf_75, m_133, mf_73, m_131, mf_74, m_132, mf_79, mf_78])
        repeat' apply And.intro
        all_goals try (first | with_reducible assumption | (with_reducible refine ck_nzI ?_; simp; done) | (with_reducible refine ck_nzL ?_; simp; done) | (with_reducible refine vp_in_nI ?_ ?_ <;> first | omega | decide) | (with_reducible refine Nat.le_of_ble_eq_true ?_; rfl) | omega)
        · intro zc27
          with_reducible first | have ze27 := Int32.not_lt.mpr zc27 | have ze27 := Int32.not_le.mpr zc27 | have ze27 := Int32.not_le.mp zc27 | have ze27 := Int32.not_lt.mp zc27 | have ze27 := Int64.not_lt.mpr zc27 | have ze27 := Int64.not_le.mpr zc27 | have ze27 := Int64.not_le.mp zc27 | have ze27 := Int64.not_lt.mp zc27 | have ze27 := Decidable.not_not.mp zc27 | have ze27 := zc27
          refine hB bX11_findTwo_142 _ _ _ _ _ _ _ kX11_findTwo_142 ?_
          dsimp only [bX11_findTwo_142, kx_wp, kx_step, kx_lI, kx_lL, kx_lA, kx_gl, kx_pI, kx_pL, kx_pR, kx_pA, kx_pV, kx_s1, kx_s2, kx_sl, kx_pre, kx_c2, kx_pl, kx_cmp, kx_oF, kx_eqN, kx_nil, kx_c1, kx_ft, kx_aI, kx_aL, kx_aR, kx_ln, Nat.reduceAdd, Option.toList, List.cons_append, List.nil_append, mW_o, mf_76, mf_77, mf_71, mf_72, m_130, mf_75, m_133, mf_73, m_131, mf_74, m_132, mf_79, mf_78]
          repeat (simp only [mu_76, mW_so, mu_77, ms_130, ms_133, ms_131, ms_132, mu_79, mu_78, ck_q4_76, ck_q4_77, ck_q4_78, ck_q4_79, ck_q4_0, ck_q4r_76, ck_q4r_77, ck_q4r_78, ck_q4r_79, ck_q4r_71, h71, nI_1, nI_clamp hk40]; try dsimp only [kx_wp, kx_step, kx_lI, kx_lL, kx_lA, kx_gl, kx_pI, kx_pL, kx_pR, kx_pA, kx_pV, kx_s1, kx_s2, kx_sl, kx_pre, kx_c2, kx_pl, kx_cmp, kx_oF, kx_eqN, kx_nil, kx_c1, kx_ft, kx_aI, kx_aL, kx_aR, kx_ln, Nat.reduceAdd, Option.toList, List.cons_append, List.nil_append, mW_o, mf_76, mf_77, mf_71, mf_72, m_130, mf_75, m_133, mf_73, m_131, mf_74, m_132, mf_79, mf_78])
          repeat' apply And.intro
          all_goals try (first | with_reducible assumption | (with_reducible refine ck_nzI ?_; simp; done) | (with_reducible refine ck_nzL ?_; simp; done) | (with_reducible refine vp_in_nI ?_ ?_ <;> first | omega | decide) | (with_reducible refine Nat.le_of_ble_eq_true ?_; rfl) | omega)
          have ze := fun x9 => ih (k + 1) x9 (by omega)
          simp only [ck_ft, hb, ck_ft1, zc17, ze17, ze27, ↓reduceIte] at ze
          exact ze _
        · intro zc27
          with_reducible first | have ze27 := Int32.not_lt.mpr zc27 | have ze27 := Int32.not_le.mpr zc27 | have ze27 := Int32.not_le.mp zc27 | have ze27 := Int32.not_lt.mp zc27 | have ze27 := Int64.not_lt.mpr zc27 | have ze27 := Int64.not_le.mpr zc27 | have ze27 := Int64.not_le.mp zc27 | have ze27 := Int64.not_lt.mp zc27 | have ze27 := Decidable.not_not.mp zc27 | have ze27 := zc27
          refine hB bX11_findTwo_30 _ _ _ _ _ _ _ kX11_findTwo_30 ?_
          dsimp only [bX11_findTwo_30, kx_wp, kx_step, kx_lI, kx_lL, kx_lA, kx_gl, kx_pI, kx_pL, kx_pR, kx_pA, kx_pV, kx_s1, kx_s2, kx_sl, kx_pre, kx_c2, kx_pl, kx_cmp, kx_oF, kx_eqN, kx_nil, kx_c1, kx_ft, kx_aI, kx_aL, kx_aR, kx_ln, Nat.reduceAdd, Option.toList, List.cons_append, List.nil_append, mW_o, mf_76, mf_77, mf_71, mf_72, m_130, mf_75, m_133, mf_73, m_131, mf_74, m_132, mf_79, mf_78]
          repeat (simp only [mu_76, mW_so, mu_77, ms_130, ms_133, ms_131, ms_132, mu_79, mu_78, ck_q4_76, ck_q4_77, ck_q4_78, ck_q4_79, ck_q4_0, ck_q4r_76, ck_q4r_77, ck_q4r_78, ck_q4r_79, ck_q4r_71, h71, nI_1, nI_clamp hk40]; try dsimp only [kx_wp, kx_step, kx_lI, kx_lL, kx_lA, kx_gl, kx_pI, kx_pL, kx_pR, kx_pA, kx_pV, kx_s1, kx_s2, kx_sl, kx_pre, kx_c2, kx_pl, kx_cmp, kx_oF, kx_eqN, kx_nil, kx_c1, kx_ft, kx_aI, kx_aL, kx_aR, kx_ln, Nat.reduceAdd, Option.toList, List.cons_append, List.nil_append, mW_o, mf_76, mf_77, mf_71, mf_72, m_130, mf_75, m_133, mf_73, m_131, mf_74, m_132, mf_79, mf_78])
          repeat' apply And.intro
          all_goals try (first | with_reducible assumption | (with_reducible refine ck_nzI ?_; simp; done) | (with_reducible refine ck_nzL ?_; simp; done) | (with_reducible refine vp_in_nI ?_ ?_ <;> first | omega | decide) | (with_reducible refine Nat.le_of_ble_eq_true ?_; rfl) | omega)
          · intro zc37
            with_reducible first | have ze37 := Int32.not_lt.mpr zc37 | have ze37 := Int32.not_le.mpr zc37 | have ze37 := Int32.not_le.mp zc37 | have ze37 := Int32.not_lt.mp zc37 | have ze37 := Int64.not_lt.mpr zc37 | have ze37 := Int64.not_le.mpr zc37 | have ze37 := Int64.not_le.mp zc37 | have ze37 := Int64.not_lt.mp zc37 | have ze37 := Decidable.not_not.mp zc37 | have ze37 := zc37
            refine hB bX11_findTwo_43 _ _ _ _ _ _ _ kX11_findTwo_43 ?_
            dsimp only [bX11_findTwo_43, kx_wp, kx_step, kx_lI, kx_lL, kx_lA, kx_gl, kx_pI, kx_pL, kx_pR, kx_pA, kx_pV, kx_s1, kx_s2, kx_sl, kx_pre, kx_c2, kx_pl, kx_cmp, kx_oF, kx_eqN, kx_nil, kx_c1, kx_ft, kx_aI, kx_aL, kx_aR, kx_ln, Nat.reduceAdd, Option.toList, List.cons_append, List.nil_append, mW_o, mf_76, mf_77, mf_71, mf_72, m_130, mf_75, m_133, mf_73, m_131, mf_74, m_132, mf_79, mf_78]
            repeat (simp only [mu_76, mW_so, mu_77, ms_130, ms_133, ms_131, ms_132, mu_79, mu_78, ck_q4_76, ck_q4_77, ck_q4_78, ck_q4_79, ck_q4_0, ck_q4r_76, ck_q4r_77, ck_q4r_78, ck_q4r_79, ck_q4r_71, h71, nI_1, nI_clamp hk40]; try dsimp only [kx_wp, kx_step, kx_lI, kx_lL, kx_lA, kx_gl, kx_pI, kx_pL, kx_pR, kx_pA, kx_pV, kx_s1, kx_s2, kx_sl, kx_pre, kx_c2, kx_pl, kx_cmp, kx_oF, kx_eqN, kx_nil, kx_c1, kx_ft, kx_aI, kx_aL, kx_aR, kx_ln, Nat.reduceAdd, Option.toList, List.cons_append, List.nil_append, mW_o, mf_76, mf_77, mf_71, mf_72, m_130, mf_75, m_133, mf_73, m_131, mf_74, m_132, mf_79, mf_78])
            repeat' apply And.intro
            all_goals try (first | with_reducible assumption | (with_reducible refine ck_nzI ?_; simp; done) | (with_reducible refine ck_nzL ?_; simp; done) | (with_reducible refine vp_in_nI ?_ ?_ <;> first | omega | decide) | (with_reducible refine Nat.le_of_ble_eq_true ?_; rfl) | omega)
            · intro zc57
              with_reducible first | have ze57 := Int32.not_lt.mpr zc57 | have ze57 := Int32.not_le.mpr zc57 | have ze57 := Int32.not_le.mp zc57 | have ze57 := Int32.not_lt.mp zc57 | have ze57 := Int64.not_lt.mpr zc57 | have ze57 := Int64.not_le.mpr zc57 | have ze57 := Int64.not_le.mp zc57 | have ze57 := Int64.not_lt.mp zc57 | have ze57 := Decidable.not_not.mp zc57 | have ze57 := zc57
              refine hB bX11_findTwo_73 _ _ _ _ _ _ _ kX11_findTwo_73 ?_
              dsimp only [bX11_findTwo_73, kx_wp, kx_step, kx_lI, kx_lL, kx_lA, kx_gl, kx_pI, kx_pL, kx_pR, kx_pA, kx_pV, kx_s1, kx_s2, kx_sl, kx_pre, kx_c2, kx_pl, kx_cmp, kx_oF, kx_eqN, kx_nil, kx_c1, kx_ft, kx_aI, kx_aL, kx_aR, kx_ln, Nat.reduceAdd, Option.toList, List.cons_append, List.nil_append, mW_o, mf_76, mf_77, mf_71, mf_72, m_130, mf_75, m_133, mf_73, m_131, mf_74, m_132, mf_79, mf_78]
              repeat (simp only [mu_76, mW_so, mu_77, ms_130, ms_133, ms_131, ms_132, mu_79, mu_78, ck_q4_76, ck_q4_77, ck_q4_78, ck_q4_79, ck_q4_0, ck_q4r_76, ck_q4r_77, ck_q4r_78, ck_q4r_79, ck_q4r_71, h71, nI_1, nI_clamp hk40]; try dsimp only [kx_wp, kx_step, kx_lI, kx_lL, kx_lA, kx_gl, kx_pI, kx_pL, kx_pR, kx_pA, kx_pV, kx_s1, kx_s2, kx_sl, kx_pre, kx_c2, kx_pl, kx_cmp, kx_oF, kx_eqN, kx_nil, kx_c1, kx_ft, kx_aI, kx_aL, kx_aR, kx_ln, Nat.reduceAdd, Option.toList, List.cons_append, List.nil_append, mW_o, mf_76, mf_77, mf_71, mf_72, m_130, mf_75, m_133, mf_73, m_131, mf_74, m_132, mf_79, mf_78])
              repeat' apply And.intro
              all_goals try (first | with_reducible assumption | (with_reducible refine ck_nzI ?_; simp; done) | (with_reducible refine ck_nzL ?_; simp; done) | (with_reducible refine vp_in_nI ?_ ?_ <;> first | omega | decide) | (with_reducible refine Nat.le_of_ble_eq_true ?_; rfl) | omega)
              · intro zc79
                with_reducible first | have ze79 := Int32.not_lt.mpr zc79 | have ze79 := Int32.not_le.mpr zc79 | have ze79 := Int32.not_le.mp zc79 | have ze79 := Int32.not_lt.mp zc79 | have ze79 := Int64.not_lt.mpr zc79 | have ze79 := Int64.not_le.mpr zc79 | have ze79 := Int64.not_le.mp zc79 | have ze79 := Int64.not_lt.mp zc79 | have ze79 := Decidable.not_not.mp zc79 | have ze79 := zc79
                refine hB bX11_findTwo_117 _ _ _ _ _ _ _ kX11_findTwo_117 ?_
                dsimp only [bX11_findTwo_117, kx_wp, kx_step, kx_lI, kx_lL, kx_lA, kx_gl, kx_pI, kx_pL, kx_pR, kx_pA, kx_pV, kx_s1, kx_s2, kx_sl, kx_pre, kx_c2, kx_pl, kx_cmp, kx_oF, kx_eqN, kx_nil, kx_c1, kx_ft, kx_aI, kx_aL, kx_aR, kx_ln, Nat.reduceAdd, Option.toList, List.cons_append, List.nil_append, mW_o, mf_76, mf_77, mf_71, mf_72, m_130, mf_75, m_133, mf_73, m_131, mf_74, m_132, mf_79, mf_78]
                repeat (simp only [mu_76, mW_so, mu_77, ms_130, ms_133, ms_131, ms_132, mu_79, mu_78, ck_q4_76, ck_q4_77, ck_q4_78, ck_q4_79, ck_q4_0, ck_q4r_76, ck_q4r_77, ck_q4r_78, ck_q4r_79, ck_q4r_71, h71, nI_1, nI_clamp hk40]; try dsimp only [kx_wp, kx_step, kx_lI, kx_lL, kx_lA, kx_gl, kx_pI, kx_pL, kx_pR, kx_pA, kx_pV, kx_s1, kx_s2, kx_sl, kx_pre, kx_c2, kx_pl, kx_cmp, kx_oF, kx_eqN, kx_nil, kx_c1, kx_ft, kx_aI, kx_aL, kx_aR, kx_ln, Nat.reduceAdd, Option.toList, List.cons_append, List.nil_append, mW_o, mf_76, mf_77, mf_71, mf_72, m_130, mf_75, m_133, mf_73, m_131, mf_74, m_132, mf_79, mf_78])
                repeat' apply And.intro
                all_goals try (first | with_reducible assumption | (with_reducible refine ck_nzI ?_; simp; done) | (with_reducible refine ck_nzL ?_; simp; done) | (with_reducible refine vp_in_nI ?_ ?_ <;> first | omega | decide) | (with_reducible refine Nat.le_of_ble_eq_true ?_; rfl) | omega)
                · intro zc123
                  with_reducible first | have ze123 := Int32.not_lt.mpr zc123 | have ze123 := Int32.not_le.mpr zc123 | have ze123 := Int32.not_le.mp zc123 | have ze123 := Int32.not_lt.mp zc123 | have ze123 := Int64.not_lt.mpr zc123 | have ze123 := Int64.not_le.mpr zc123 | have ze123 := Int64.not_le.mp zc123 | have ze123 := Int64.not_lt.mp zc123 | have ze123 := Decidable.not_not.mp zc123 | have ze123 := zc123
                  refine hB bX11_findTwo_142 _ _ _ _ _ _ _ kX11_findTwo_142 ?_
                  dsimp only [bX11_findTwo_142, kx_wp, kx_step, kx_lI, kx_lL, kx_lA, kx_gl, kx_pI, kx_pL, kx_pR, kx_pA, kx_pV, kx_s1, kx_s2, kx_sl, kx_pre, kx_c2, kx_pl, kx_cmp, kx_oF, kx_eqN, kx_nil, kx_c1, kx_ft, kx_aI, kx_aL, kx_aR, kx_ln, Nat.reduceAdd, Option.toList, List.cons_append, List.nil_append, mW_o, mf_76, mf_77, mf_71, mf_72, m_130, mf_75, m_133, mf_73, m_131, mf_74, m_132, mf_79, mf_78]
                  repeat (simp only [mu_76, mW_so, mu_77, ms_130, ms_133, ms_131, ms_132, mu_79, mu_78, ck_q4_76, ck_q4_77, ck_q4_78, ck_q4_79, ck_q4_0, ck_q4r_76, ck_q4r_77, ck_q4r_78, ck_q4r_79, ck_q4r_71, h71, nI_1, nI_clamp hk40]; try dsimp only [kx_wp, kx_step, kx_lI, kx_lL, kx_lA, kx_gl, kx_pI, kx_pL, kx_pR, kx_pA, kx_pV, kx_s1, kx_s2, kx_sl, kx_pre, kx_c2, kx_pl, kx_cmp, kx_oF, kx_eqN, kx_nil, kx_c1, kx_ft, kx_aI, kx_aL, kx_aR, kx_ln, Nat.reduceAdd, Option.toList, List.cons_append, List.nil_append, mW_o, mf_76, mf_77, mf_71, mf_72, m_130, mf_75, m_133, mf_73, m_131, mf_74, m_132, mf_79, mf_78])
                  repeat' apply And.intro
                  all_goals try (first | with_reducible assumption | (with_reducible refine ck_nzI ?_; simp; done) | (with_reducible refine ck_nzL ?_; simp; done) | (with_reducible refine vp_in_nI ?_ ?_ <;> first | omega | decide) | (with_reducible refine Nat.le_of_ble_eq_true ?_; rfl) | omega)
                  have ze := fun x9 => ih (k + 1) x9 (by omega)
                  simp only [ck_ft, hb, ck_ft1, zc17, ze17, eq_true ze27, zc37, ze37, ze57, zc79, ze79, zc123, ze123, ↓reduceIte] at ze
                  exact ze _
                · intro zc123
                  with_reducible first | have ze123 := Int32.not_lt.mpr zc123 | have ze123 := Int32.not_le.mpr zc123 | have ze123 := Int32.not_le.mp zc123 | have ze123 := Int32.not_lt.mp zc123 | have ze123 := Int64.not_lt.mpr zc123 | have ze123 := Int64.not_le.mpr zc123 | have ze123 := Int64.not_le.mp zc123 | have ze123 := Int64.not_lt.mp zc123 | have ze123 := Decidable.not_not.mp zc123 | have ze123 := zc123
                  refine hB bX11_findTwo_126 _ _ _ _ _ _ _ kX11_findTwo_126 ?_
                  dsimp only [bX11_findTwo_126, kx_wp, kx_step, kx_lI, kx_lL, kx_lA, kx_gl, kx_pI, kx_pL, kx_pR, kx_pA, kx_pV, kx_s1, kx_s2, kx_sl, kx_pre, kx_c2, kx_pl, kx_cmp, kx_oF, kx_eqN, kx_nil, kx_c1, kx_ft, kx_aI, kx_aL, kx_aR, kx_ln, Nat.reduceAdd, Option.toList, List.cons_append, List.nil_append, mW_o, mf_76, mf_77, mf_71, mf_72, m_130, mf_75, m_133, mf_73, m_131, mf_74, m_132, mf_79, mf_78]
                  repeat (simp only [mu_76, mW_so, mu_77, ms_130, ms_133, ms_131, ms_132, mu_79, mu_78, ck_q4_76, ck_q4_77, ck_q4_78, ck_q4_79, ck_q4_0, ck_q4r_76, ck_q4r_77, ck_q4r_78, ck_q4r_79, ck_q4r_71, h71, nI_1, nI_clamp hk40]; try dsimp only [kx_wp, kx_step, kx_lI, kx_lL, kx_lA, kx_gl, kx_pI, kx_pL, kx_pR, kx_pA, kx_pV, kx_s1, kx_s2, kx_sl, kx_pre, kx_c2, kx_pl, kx_cmp, kx_oF, kx_eqN, kx_nil, kx_c1, kx_ft, kx_aI, kx_aL, kx_aR, kx_ln, Nat.reduceAdd, Option.toList, List.cons_append, List.nil_append, mW_o, mf_76, mf_77, mf_71, mf_72, m_130, mf_75, m_133, mf_73, m_131, mf_74, m_132, mf_79, mf_78])
                  repeat' apply And.intro
                  all_goals try (first | with_reducible assumption | (with_reducible refine ck_nzI ?_; simp; done) | (with_reducible refine ck_nzL ?_; simp; done) | (with_reducible refine vp_in_nI ?_ ?_ <;> first | omega | decide) | (with_reducible refine Nat.le_of_ble_eq_true ?_; rfl) | omega)
                  refine hB bX11_findTwo_142 _ _ _ _ _ _ _ kX11_findTwo_142 ?_
                  dsimp only [bX11_findTwo_142, kx_wp, kx_step, kx_lI, kx_lL, kx_lA, kx_gl, kx_pI, kx_pL, kx_pR, kx_pA, kx_pV, kx_s1, kx_s2, kx_sl, kx_pre, kx_c2, kx_pl, kx_cmp, kx_oF, kx_eqN, kx_nil, kx_c1, kx_ft, kx_aI, kx_aL, kx_aR, kx_ln, Nat.reduceAdd, Option.toList, List.cons_append, List.nil_append, mW_o, mf_76, mf_77, mf_71, mf_72, m_130, mf_75, m_133, mf_73, m_131, mf_74, m_132, mf_79, mf_78]
                  repeat (simp only [mu_76, mW_so, mu_77, ms_130, ms_133, ms_131, ms_132, mu_79, mu_78, ck_q4_76, ck_q4_77, ck_q4_78, ck_q4_79, ck_q4_0, ck_q4r_76, ck_q4r_77, ck_q4r_78, ck_q4r_79, ck_q4r_71, h71, nI_1, nI_clamp hk40]; try dsimp only [kx_wp, kx_step, kx_lI, kx_lL, kx_lA, kx_gl, kx_pI, kx_pL, kx_pR, kx_pA, kx_pV, kx_s1, kx_s2, kx_sl, kx_pre, kx_c2, kx_pl, kx_cmp, kx_oF, kx_eqN, kx_nil, kx_c1, kx_ft, kx_aI, kx_aL, kx_aR, kx_ln, Nat.reduceAdd, Option.toList, List.cons_append, List.nil_append, mW_o, mf_76, mf_77, mf_71, mf_72, m_130, mf_75, m_133, mf_73, m_131, mf_74, m_132, mf_79, mf_78])
                  repeat' apply And.intro
                  all_goals try (first | with_reducible assumption | (with_reducible refine ck_nzI ?_; simp; done) | (with_reducible refine ck_nzL ?_; simp; done) | (with_reducible refine vp_in_nI ?_ ?_ <;> first | omega | decide) | (with_reducible refine Nat.le_of_ble_eq_true ?_; rfl) | omega)
                  have ze := fun x9 => ih (k + 1) x9 (by omega)
                  simp only [ck_ft, hb, ck_ft1, zc17, ze17, eq_true ze27, zc37, ze37, ze57, zc79, ze79, zc123, ze123, ↓reduceIte] at ze
                  exact ze _
              · intro zc79
                with_reducible first | have ze79 := Int32.not_lt.mpr zc79 | have ze79 := Int32.not_le.mpr zc79 | have ze79 := Int32.not_le.mp zc79 | have ze79 := Int32.not_lt.mp zc79 | have ze79 := Int64.not_lt.mpr zc79 | have ze79 := Int64.not_le.mpr zc79 | have ze79 := Int64.not_le.mp zc79 | have ze79 := Int64.not_lt.mp zc79 | have ze79 := Decidable.not_not.mp zc79 | have ze79 := zc79
                refine hB bX11_findTwo_82 _ _ _ _ _ _ _ kX11_findTwo_82 ?_
                dsimp only [bX11_findTwo_82, kx_wp, kx_step, kx_lI, kx_lL, kx_lA, kx_gl, kx_pI, kx_pL, kx_pR, kx_pA, kx_pV, kx_s1, kx_s2, kx_sl, kx_pre, kx_c2, kx_pl, kx_cmp, kx_oF, kx_eqN, kx_nil, kx_c1, kx_ft, kx_aI, kx_aL, kx_aR, kx_ln, Nat.reduceAdd, Option.toList, List.cons_append, List.nil_append, mW_o, mf_76, mf_77, mf_71, mf_72, m_130, mf_75, m_133, mf_73, m_131, mf_74, m_132, mf_79, mf_78]
                repeat (simp only [mu_76, mW_so, mu_77, ms_130, ms_133, ms_131, ms_132, mu_79, mu_78, ck_q4_76, ck_q4_77, ck_q4_78, ck_q4_79, ck_q4_0, ck_q4r_76, ck_q4r_77, ck_q4r_78, ck_q4r_79, ck_q4r_71, h71, nI_1, nI_clamp hk40]; try dsimp only [kx_wp, kx_step, kx_lI, kx_lL, kx_lA, kx_gl, kx_pI, kx_pL, kx_pR, kx_pA, kx_pV, kx_s1, kx_s2, kx_sl, kx_pre, kx_c2, kx_pl, kx_cmp, kx_oF, kx_eqN, kx_nil, kx_c1, kx_ft, kx_aI, kx_aL, kx_aR, kx_ln, Nat.reduceAdd, Option.toList, List.cons_append, List.nil_append, mW_o, mf_76, mf_77, mf_71, mf_72, m_130, mf_75, m_133, mf_73, m_131, mf_74, m_132, mf_79, mf_78])
                repeat' apply And.intro
                all_goals try (first | with_reducible assumption | (with_reducible refine ck_nzI ?_; simp; done) | (with_reducible refine ck_nzL ?_; simp; done) | (with_reducible refine vp_in_nI ?_ ?_ <;> first | omega | decide) | (with_reducible refine Nat.le_of_ble_eq_true ?_; rfl) | omega)
                refine hB bX11_findTwo_142 _ _ _ _ _ _ _ kX11_findTwo_142 ?_
                dsimp only [bX11_findTwo_142, kx_wp, kx_step, kx_lI, kx_lL, kx_lA, kx_gl, kx_pI, kx_pL, kx_pR, kx_pA, kx_pV, kx_s1, kx_s2, kx_sl, kx_pre, kx_c2, kx_pl, kx_cmp, kx_oF, kx_eqN, kx_nil, kx_c1, kx_ft, kx_aI, kx_aL, kx_aR, kx_ln, Nat.reduceAdd, Option.toList, List.cons_append, List.nil_append, mW_o, mf_76, mf_77, mf_71, mf_72, m_130, mf_75, m_133, mf_73, m_131, mf_74, m_132, mf_79, mf_78]
                repeat (simp only [mu_76, mW_so, mu_77, ms_130, ms_133, ms_131, ms_132, mu_79, mu_78, ck_q4_76, ck_q4_77, ck_q4_78, ck_q4_79, ck_q4_0, ck_q4r_76, ck_q4r_77, ck_q4r_78, ck_q4r_79, ck_q4r_71, h71, nI_1, nI_clamp hk40]; try dsimp only [kx_wp, kx_step, kx_lI, kx_lL, kx_lA, kx_gl, kx_pI, kx_pL, kx_pR, kx_pA, kx_pV, kx_s1, kx_s2, kx_sl, kx_pre, kx_c2, kx_pl, kx_cmp, kx_oF, kx_eqN, kx_nil, kx_c1, kx_ft, kx_aI, kx_aL, kx_aR, kx_ln, Nat.reduceAdd, Option.toList, List.cons_append, List.nil_append, mW_o, mf_76, mf_77, mf_71, mf_72, m_130, mf_75, m_133, mf_73, m_131, mf_74, m_132, mf_79, mf_78])
                repeat' apply And.intro
                all_goals try (first | with_reducible assumption | (with_reducible refine ck_nzI ?_; simp; done) | (with_reducible refine ck_nzL ?_; simp; done) | (with_reducible refine vp_in_nI ?_ ?_ <;> first | omega | decide) | (with_reducible refine Nat.le_of_ble_eq_true ?_; rfl) | omega)
                have ze := fun x9 => ih (k + 1) x9 (by omega)
                simp only [ck_ft, hb, ck_ft1, zc17, ze17, eq_true ze27, zc37, ze37, ze57, zc79, ze79, ↓reduceIte] at ze
                exact ze _
            · intro zc57
              with_reducible first | have ze57 := Int32.not_lt.mpr zc57 | have ze57 := Int32.not_le.mpr zc57 | have ze57 := Int32.not_le.mp zc57 | have ze57 := Int32.not_lt.mp zc57 | have ze57 := Int64.not_lt.mpr zc57 | have ze57 := Int64.not_le.mpr zc57 | have ze57 := Int64.not_le.mp zc57 | have ze57 := Int64.not_lt.mp zc57 | have ze57 := Decidable.not_not.mp zc57 | have ze57 := zc57
              refine hB bX11_findTwo_60 _ _ _ _ _ _ _ kX11_findTwo_60 ?_
              dsimp only [bX11_findTwo_60, kx_wp, kx_step, kx_lI, kx_lL, kx_lA, kx_gl, kx_pI, kx_pL, kx_pR, kx_pA, kx_pV, kx_s1, kx_s2, kx_sl, kx_pre, kx_c2, kx_pl, kx_cmp, kx_oF, kx_eqN, kx_nil, kx_c1, kx_ft, kx_aI, kx_aL, kx_aR, kx_ln, Nat.reduceAdd, Option.toList, List.cons_append, List.nil_append, mW_o, mf_76, mf_77, mf_71, mf_72, m_130, mf_75, m_133, mf_73, m_131, mf_74, m_132, mf_79, mf_78]
              repeat (simp only [mu_76, mW_so, mu_77, ms_130, ms_133, ms_131, ms_132, mu_79, mu_78, ck_q4_76, ck_q4_77, ck_q4_78, ck_q4_79, ck_q4_0, ck_q4r_76, ck_q4r_77, ck_q4r_78, ck_q4r_79, ck_q4r_71, h71, nI_1, nI_clamp hk40]; try dsimp only [kx_wp, kx_step, kx_lI, kx_lL, kx_lA, kx_gl, kx_pI, kx_pL, kx_pR, kx_pA, kx_pV, kx_s1, kx_s2, kx_sl, kx_pre, kx_c2, kx_pl, kx_cmp, kx_oF, kx_eqN, kx_nil, kx_c1, kx_ft, kx_aI, kx_aL, kx_aR, kx_ln, Nat.reduceAdd, Option.toList, List.cons_append, List.nil_append, mW_o, mf_76, mf_77, mf_71, mf_72, m_130, mf_75, m_133, mf_73, m_131, mf_74, m_132, mf_79, mf_78])
              repeat' apply And.intro
              all_goals try (first | with_reducible assumption | (with_reducible refine ck_nzI ?_; simp; done) | (with_reducible refine ck_nzL ?_; simp; done) | (with_reducible refine vp_in_nI ?_ ?_ <;> first | omega | decide) | (with_reducible refine Nat.le_of_ble_eq_true ?_; rfl) | omega)
              refine hB bX11_findTwo_142 _ _ _ _ _ _ _ kX11_findTwo_142 ?_
              dsimp only [bX11_findTwo_142, kx_wp, kx_step, kx_lI, kx_lL, kx_lA, kx_gl, kx_pI, kx_pL, kx_pR, kx_pA, kx_pV, kx_s1, kx_s2, kx_sl, kx_pre, kx_c2, kx_pl, kx_cmp, kx_oF, kx_eqN, kx_nil, kx_c1, kx_ft, kx_aI, kx_aL, kx_aR, kx_ln, Nat.reduceAdd, Option.toList, List.cons_append, List.nil_append, mW_o, mf_76, mf_77, mf_71, mf_72, m_130, mf_75, m_133, mf_73, m_131, mf_74, m_132, mf_79, mf_78]
              repeat (simp only [mu_76, mW_so, mu_77, ms_130, ms_133, ms_131, ms_132, mu_79, mu_78, ck_q4_76, ck_q4_77, ck_q4_78, ck_q4_79, ck_q4_0, ck_q4r_76, ck_q4r_77, ck_q4r_78, ck_q4r_79, ck_q4r_71, h71, nI_1, nI_clamp hk40]; try dsimp only [kx_wp, kx_step, kx_lI, kx_lL, kx_lA, kx_gl, kx_pI, kx_pL, kx_pR, kx_pA, kx_pV, kx_s1, kx_s2, kx_sl, kx_pre, kx_c2, kx_pl, kx_cmp, kx_oF, kx_eqN, kx_nil, kx_c1, kx_ft, kx_aI, kx_aL, kx_aR, kx_ln, Nat.reduceAdd, Option.toList, List.cons_append, List.nil_append, mW_o, mf_76, mf_77, mf_71, mf_72, m_130, mf_75, m_133, mf_73, m_131, mf_74, m_132, mf_79, mf_78])
              repeat' apply And.intro
              all_goals try (first | with_reducible assumption | (with_reducible refine ck_nzI ?_; simp; done) | (with_reducible refine ck_nzL ?_; simp; done) | (with_reducible refine vp_in_nI ?_ ?_ <;> first | omega | decide) | (with_reducible refine Nat.le_of_ble_eq_true ?_; rfl) | omega)
              have ze := fun x9 => ih (k + 1) x9 (by omega)
              simp only [ck_ft, hb, ck_ft1, zc17, ze17, eq_true ze27, zc37, ze37, eq_true ze57, ↓reduceIte] at ze
              exact ze _
          · intro zc37
            with_reducible first | have ze37 := Int32.not_lt.mpr zc37 | have ze37 := Int32.not_le.mpr zc37 | have ze37 := Int32.not_le.mp zc37 | have ze37 := Int32.not_lt.mp zc37 | have ze37 := Int64.not_lt.mpr zc37 | have ze37 := Int64.not_le.mpr zc37 | have ze37 := Int64.not_le.mp zc37 | have ze37 := Int64.not_lt.mp zc37 | have ze37 := Decidable.not_not.mp zc37 | have ze37 := zc37
            refine hB bX11_findTwo_40 _ _ _ _ _ _ _ kX11_findTwo_40 ?_
            dsimp only [bX11_findTwo_40, kx_wp, kx_step, kx_lI, kx_lL, kx_lA, kx_gl, kx_pI, kx_pL, kx_pR, kx_pA, kx_pV, kx_s1, kx_s2, kx_sl, kx_pre, kx_c2, kx_pl, kx_cmp, kx_oF, kx_eqN, kx_nil, kx_c1, kx_ft, kx_aI, kx_aL, kx_aR, kx_ln, Nat.reduceAdd, Option.toList, List.cons_append, List.nil_append, mW_o, mf_76, mf_77, mf_71, mf_72, m_130, mf_75, m_133, mf_73, m_131, mf_74, m_132, mf_79, mf_78]
            repeat (simp only [mu_76, mW_so, mu_77, ms_130, ms_133, ms_131, ms_132, mu_79, mu_78, ck_q4_76, ck_q4_77, ck_q4_78, ck_q4_79, ck_q4_0, ck_q4r_76, ck_q4r_77, ck_q4r_78, ck_q4r_79, ck_q4r_71, h71, nI_1, nI_clamp hk40]; try dsimp only [kx_wp, kx_step, kx_lI, kx_lL, kx_lA, kx_gl, kx_pI, kx_pL, kx_pR, kx_pA, kx_pV, kx_s1, kx_s2, kx_sl, kx_pre, kx_c2, kx_pl, kx_cmp, kx_oF, kx_eqN, kx_nil, kx_c1, kx_ft, kx_aI, kx_aL, kx_aR, kx_ln, Nat.reduceAdd, Option.toList, List.cons_append, List.nil_append, mW_o, mf_76, mf_77, mf_71, mf_72, m_130, mf_75, m_133, mf_73, m_131, mf_74, m_132, mf_79, mf_78])
            repeat' apply And.intro
            all_goals try (first | with_reducible assumption | (with_reducible refine ck_nzI ?_; simp; done) | (with_reducible refine ck_nzL ?_; simp; done) | (with_reducible refine vp_in_nI ?_ ?_ <;> first | omega | decide) | (with_reducible refine Nat.le_of_ble_eq_true ?_; rfl) | omega)
            refine hB bX11_findTwo_142 _ _ _ _ _ _ _ kX11_findTwo_142 ?_
            dsimp only [bX11_findTwo_142, kx_wp, kx_step, kx_lI, kx_lL, kx_lA, kx_gl, kx_pI, kx_pL, kx_pR, kx_pA, kx_pV, kx_s1, kx_s2, kx_sl, kx_pre, kx_c2, kx_pl, kx_cmp, kx_oF, kx_eqN, kx_nil, kx_c1, kx_ft, kx_aI, kx_aL, kx_aR, kx_ln, Nat.reduceAdd, Option.toList, List.cons_append, List.nil_append, mW_o, mf_76, mf_77, mf_71, mf_72, m_130, mf_75, m_133, mf_73, m_131, mf_74, m_132, mf_79, mf_78]
            repeat (simp only [mu_76, mW_so, mu_77, ms_130, ms_133, ms_131, ms_132, mu_79, mu_78, ck_q4_76, ck_q4_77, ck_q4_78, ck_q4_79, ck_q4_0, ck_q4r_76, ck_q4r_77, ck_q4r_78, ck_q4r_79, ck_q4r_71, h71, nI_1, nI_clamp hk40]; try dsimp only [kx_wp, kx_step, kx_lI, kx_lL, kx_lA, kx_gl, kx_pI, kx_pL, kx_pR, kx_pA, kx_pV, kx_s1, kx_s2, kx_sl, kx_pre, kx_c2, kx_pl, kx_cmp, kx_oF, kx_eqN, kx_nil, kx_c1, kx_ft, kx_aI, kx_aL, kx_aR, kx_ln, Nat.reduceAdd, Option.toList, List.cons_append, List.nil_append, mW_o, mf_76, mf_77, mf_71, mf_72, m_130, mf_75, m_133, mf_73, m_131, mf_74, m_132, mf_79, mf_78])
            repeat' apply And.intro
            all_goals try (first | with_reducible assumption | (with_reducible refine ck_nzI ?_; simp; done) | (with_reducible refine ck_nzL ?_; simp; done) | (with_reducible refine vp_in_nI ?_ ?_ <;> first | omega | decide) | (with_reducible refine Nat.le_of_ble_eq_true ?_; rfl) | omega)
            have ze := fun x9 => ih (k + 1) x9 (by omega)
            simp only [ck_ft, hb, ck_ft1, zc17, ze17, eq_true ze27, zc37, ze37, ↓reduceIte] at ze
            exact ze _
  refine hB bX11_findTwo_0 _ _ _ _ _ _ _ kX11_findTwo_0 ?_
  dsimp only [bX11_findTwo_0, kx_wp, kx_step, kx_lI, kx_lL, kx_lA, kx_gl, kx_pI, kx_pL, kx_pR, kx_pA, kx_pV, kx_s1, kx_s2, kx_sl, kx_pre, kx_c2, kx_pl, kx_cmp, kx_oF, kx_eqN, kx_nil, kx_c1, kx_ft, kx_aI, kx_aL, kx_aR, kx_ln, Nat.reduceAdd, Option.toList, List.cons_append, List.nil_append, mW_o, mf_76, mf_77, mf_71, mf_72, m_130, mf_75, m_133, mf_73, m_131, mf_74, m_132, mf_79, mf_78]
  repeat (simp only [mu_76, mW_so, mu_77, ms_130, ms_133, ms_131, ms_132, mu_79, mu_78, ck_q4_76, ck_q4_77, ck_q4_78, ck_q4_79, ck_q4_0, ck_q4r_76, ck_q4r_77, ck_q4r_78, ck_q4r_79, ck_q4r_71, h71, nI_1]; try dsimp only [kx_wp, kx_step, kx_lI, kx_lL, kx_lA, kx_gl, kx_pI, kx_pL, kx_pR, kx_pA, kx_pV, kx_s1, kx_s2, kx_sl, kx_pre, kx_c2, kx_pl, kx_cmp, kx_oF, kx_eqN, kx_nil, kx_c1, kx_ft, kx_aI, kx_aL, kx_aR, kx_ln, Nat.reduceAdd, Option.toList, List.cons_append, List.nil_append, mW_o, mf_76, mf_77, mf_71, mf_72, m_130, mf_75, m_133, mf_73, m_131, mf_74, m_132, mf_79, mf_78])
  repeat' apply And.intro
  all_goals try (first | with_reducible assumption | (with_reducible refine ck_nzI ?_; simp; done) | (with_reducible refine ck_nzL ?_; simp; done) | (with_reducible refine vp_in_nI ?_ ?_ <;> first | omega | decide) | (with_reducible refine Nat.le_of_ble_eq_true ?_; rfl) | omega)
  exact loop12 n 0 _ (by omega)

def bX11_reckon_0 : List kx_O := [(.aload_n 0, 0, 0, 0, .null), (.getfield 535, 11, 76, 0, .null), (.iconst (-1), 0, 0, 0, .int (-1)), (.if_icmp .ne 11, 16, 0, 0, .null)]
theorem kX11_reckon_0 : kx_oks kxL_X11 false cX11_reckon 0 bX11_reckon_0 = true := by decide +kernel
def bX11_reckon_8 : List kx_O := [(.aload_n 0, 0, 0, 0, .null), (.getfield 541, 11, 79, 0, .null), (.i2l, 0, 0, 0, .null), (.goto 40, 53, 0, 0, .null)]
theorem kX11_reckon_8 : kx_oks kxL_X11 false cX11_reckon 8 bX11_reckon_8 = true := by decide +kernel
def bX11_reckon_16 : List kx_O := [(.aload_n 0, 0, 0, 0, .null), (.getfield 541, 11, 79, 0, .null), (.i2l, 0, 0, 0, .null), (.aload_n 0, 0, 0, 0, .null), (.getfield 541, 11, 79, 0, .null), (.aload_n 0, 0, 0, 0, .null), (.getfield 544, 11, 78, 0, .null), (.isub, 0, 0, 0, .null), (.i2l, 0, 0, 0, .null), (.iload_n 1, 1, 0, 0, .null), (.aload_n 0, 0, 0, 0, .null), (.getfield 538, 11, 77, 0, .null), (.isub, 0, 0, 0, .null), (.i2l, 0, 0, 0, .null), (.lmul, 0, 0, 0, .null), (.aload_n 0, 0, 0, 0, .null), (.getfield 538, 11, 77, 0, .null), (.aload_n 0, 0, 0, 0, .null), (.getfield 535, 11, 76, 0, .null), (.isub, 0, 0, 0, .null), (.i2l, 0, 0, 0, .null)]
theorem kX11_reckon_16 : kx_oks kxL_X11 false cX11_reckon 16 bX11_reckon_16 = true := by decide +kernel
def bX11_reckon_52 : List kx_O := [(.ladd, 0, 0, 0, .null)]
theorem kX11_reckon_52 : kx_oks kxL_X11 false cX11_reckon 52 bX11_reckon_52 = true := by decide +kernel
def bX11_reckon_53 : List kx_O := [(.lreturn, 0, 0, 0, .null)]
theorem kX11_reckon_53 : kx_oks kxL_X11 false cX11_reckon 53 bX11_reckon_53 = true := by decide +kernel
theorem dX11_reckon_49 : decode cX11_reckon 49 = .ok (.invokestatic 547, 3) := by decide +kernel
set_option maxRecDepth 100000 in
set_option maxHeartbeats 4000000 in
theorem ct_X11_reckon (l : Launch) (G : kx_G) {M : Nat → Int32} {A : Nat → Nat → Int32} {L : Nat → Nat → Int64} {R : kx_P} {sz : Nat} {i : Int32} (hz : ¬ M 76 = -1 → ¬ (M 77 - M 76).toInt64 = 0)  : kx_M l G sX11_reckon 2 0 0 [.ref 93, .int (i)] (mW M A L R) sz (some (.long (ck_rk (M 76, M 77, M 78, M 79) i))) (mW M A L R) sz := by
  refine kx_mk kx_tab kxLok_X11 (ini := false) [some (.ref 93), some (.int (i))] ⟨by decide, rfl, by decide, by decide⟩ (⟨_, rfl⟩) rfl rfl (fun g hB hC => ?_)
  refine hB bX11_reckon_0 _ _ _ _ _ _ _ kX11_reckon_0 ?_
  dsimp only [bX11_reckon_0, kx_wp, kx_step, kx_lI, kx_lL, kx_lA, kx_gl, kx_pI, kx_pL, kx_pR, kx_pA, kx_pV, kx_s1, kx_s2, kx_sl, kx_pre, kx_c2, kx_pl, kx_cmp, kx_oF, kx_eqN, kx_nil, kx_c1, kx_ft, kx_aI, kx_aL, kx_aR, kx_ln, Nat.reduceAdd, Option.toList, List.cons_append, List.nil_append, mW_o, mf_76, mf_79, mf_78, mf_77]
  repeat' apply And.intro
  all_goals try (first | with_reducible assumption | (with_reducible refine ck_nzI ?_; simp; done) | (with_reducible refine ck_nzL ?_; simp; done) | (with_reducible refine vp_in_nI ?_ ?_ <;> first | omega | decide) | (with_reducible refine Nat.le_of_ble_eq_true ?_; rfl) | omega)
  · intro zc5
    with_reducible first | have ze5 := Int32.not_lt.mpr zc5 | have ze5 := Int32.not_le.mpr zc5 | have ze5 := Int32.not_le.mp zc5 | have ze5 := Int32.not_lt.mp zc5 | have ze5 := Int64.not_lt.mpr zc5 | have ze5 := Int64.not_le.mpr zc5 | have ze5 := Int64.not_le.mp zc5 | have ze5 := Int64.not_lt.mp zc5 | have ze5 := Decidable.not_not.mp zc5 | have ze5 := zc5
    refine hB bX11_reckon_16 _ _ _ _ _ _ _ kX11_reckon_16 ?_
    dsimp only [bX11_reckon_16, kx_wp, kx_step, kx_lI, kx_lL, kx_lA, kx_gl, kx_pI, kx_pL, kx_pR, kx_pA, kx_pV, kx_s1, kx_s2, kx_sl, kx_pre, kx_c2, kx_pl, kx_cmp, kx_oF, kx_eqN, kx_nil, kx_c1, kx_ft, kx_aI, kx_aL, kx_aR, kx_ln, Nat.reduceAdd, Option.toList, List.cons_append, List.nil_append, mW_o, mf_76, mf_79, mf_78, mf_77]
    repeat' apply And.intro
    all_goals try (first | with_reducible assumption | (with_reducible refine ck_nzI ?_; simp; done) | (with_reducible refine ck_nzL ?_; simp; done) | (with_reducible refine vp_in_nI ?_ ?_ <;> first | omega | decide) | (with_reducible refine Nat.le_of_ble_eq_true ?_; rfl) | omega)
    refine hC.2.1 547 _ _ _ _ _ _ _ _ _ _ _ _ _ _ _ _ _ lX11_547 (ct_X11_down l G (hz ze5)) rfl rfl (Nat.le_of_ble_eq_true rfl) (by decide) (by decide) (by omega) (by omega) dX11_reckon_49 ?_
    refine hB bX11_reckon_52 _ _ _ _ _ _ _ kX11_reckon_52 ?_
    dsimp only [bX11_reckon_52, kx_wp, kx_step, kx_lI, kx_lL, kx_lA, kx_gl, kx_pI, kx_pL, kx_pR, kx_pA, kx_pV, kx_s1, kx_s2, kx_sl, kx_pre, kx_c2, kx_pl, kx_cmp, kx_oF, kx_eqN, kx_nil, kx_c1, kx_ft, kx_aI, kx_aL, kx_aR, kx_ln, Nat.reduceAdd, Option.toList, List.cons_append, List.nil_append, mW_o, mf_76, mf_79, mf_78, mf_77]
    repeat' apply And.intro
    all_goals try (first | with_reducible assumption | (with_reducible refine ck_nzI ?_; simp; done) | (with_reducible refine ck_nzL ?_; simp; done) | (with_reducible refine vp_in_nI ?_ ?_ <;> first | omega | decide) | (with_reducible refine Nat.le_of_ble_eq_true ?_; rfl) | omega)
    refine hB bX11_reckon_53 _ _ _ _ _ _ _ kX11_reckon_53 ?_
    dsimp only [bX11_reckon_53, kx_wp, kx_step, kx_lI, kx_lL, kx_lA, kx_gl, kx_pI, kx_pL, kx_pR, kx_pA, kx_pV, kx_s1, kx_s2, kx_sl, kx_pre, kx_c2, kx_pl, kx_cmp, kx_oF, kx_eqN, kx_nil, kx_c1, kx_ft, kx_aI, kx_aL, kx_aR, kx_ln, Nat.reduceAdd, Option.toList, List.cons_append, List.nil_append, mW_o, mf_76, mf_79, mf_78, mf_77]
    all_goals (repeat' apply And.intro)
    all_goals ((try clear hB hC); first | exact True.intro | with_reducible rfl | with_reducible assumption | (with_reducible refine vp_in_nI ?_ ?_ <;> first | omega | decide) | exact Nat.le_of_ble_eq_true rfl | (with_reducible refine ck_nzI ?_; simp; done) | (with_reducible refine ck_nzL ?_; simp; done) | (simp only [pk_us, pk_uLs, ck_rk, ck_dn, ze5, ↓reduceIte, not_true_eq_false, not_false_eq_true]; done) | (simp only [ck_rk, ck_dn, ze5, ↓reduceIte, not_true_eq_false, not_false_eq_true]; with_reducible rfl) | skip)
  · intro zc5
    with_reducible first | have ze5 := Int32.not_lt.mpr zc5 | have ze5 := Int32.not_le.mpr zc5 | have ze5 := Int32.not_le.mp zc5 | have ze5 := Int32.not_lt.mp zc5 | have ze5 := Int64.not_lt.mpr zc5 | have ze5 := Int64.not_le.mpr zc5 | have ze5 := Int64.not_le.mp zc5 | have ze5 := Int64.not_lt.mp zc5 | have ze5 := Decidable.not_not.mp zc5 | have ze5 := zc5
    refine hB bX11_reckon_8 _ _ _ _ _ _ _ kX11_reckon_8 ?_
    dsimp only [bX11_reckon_8, kx_wp, kx_step, kx_lI, kx_lL, kx_lA, kx_gl, kx_pI, kx_pL, kx_pR, kx_pA, kx_pV, kx_s1, kx_s2, kx_sl, kx_pre, kx_c2, kx_pl, kx_cmp, kx_oF, kx_eqN, kx_nil, kx_c1, kx_ft, kx_aI, kx_aL, kx_aR, kx_ln, Nat.reduceAdd, Option.toList, List.cons_append, List.nil_append, mW_o, mf_76, mf_79, mf_78, mf_77]
    repeat' apply And.intro
    all_goals try (first | with_reducible assumption | (with_reducible refine ck_nzI ?_; simp; done) | (with_reducible refine ck_nzL ?_; simp; done) | (with_reducible refine vp_in_nI ?_ ?_ <;> first | omega | decide) | (with_reducible refine Nat.le_of_ble_eq_true ?_; rfl) | omega)
    refine hB bX11_reckon_53 _ _ _ _ _ _ _ kX11_reckon_53 ?_
    dsimp only [bX11_reckon_53, kx_wp, kx_step, kx_lI, kx_lL, kx_lA, kx_gl, kx_pI, kx_pL, kx_pR, kx_pA, kx_pV, kx_s1, kx_s2, kx_sl, kx_pre, kx_c2, kx_pl, kx_cmp, kx_oF, kx_eqN, kx_nil, kx_c1, kx_ft, kx_aI, kx_aL, kx_aR, kx_ln, Nat.reduceAdd, Option.toList, List.cons_append, List.nil_append, mW_o, mf_76, mf_79, mf_78, mf_77]
    all_goals (repeat' apply And.intro)
    all_goals ((try clear hB hC); first | exact True.intro | with_reducible rfl | with_reducible assumption | (with_reducible refine vp_in_nI ?_ ?_ <;> first | omega | decide) | exact Nat.le_of_ble_eq_true rfl | (with_reducible refine ck_nzI ?_; simp; done) | (with_reducible refine ck_nzL ?_; simp; done) | (simp only [pk_us, pk_uLs, ck_rk, ck_dn, eq_true ze5, ↓reduceIte, not_true_eq_false, not_false_eq_true]; done) | (simp only [ck_rk, ck_dn, eq_true ze5, ↓reduceIte, not_true_eq_false, not_false_eq_true]; with_reducible rfl) | skip)

def bX11_speedNow_0 : List kx_O := [(.aload_n 0, 0, 0, 0, .null), (.getfield 541, 11, 79, 0, .null), (.aload_n 0, 0, 0, 0, .null), (.getfield 544, 11, 78, 0, .null), (.isub, 0, 0, 0, .null), (.i2l, 0, 0, 0, .null), (.ldc2_w 427, 0, 0, 0, .long (1000)), (.lmul, 0, 0, 0, .null), (.ldc2_w 392, 0, 0, 0, .long (60)), (.aload_n 0, 0, 0, 0, .null), (.getfield 538, 11, 77, 0, .null), (.aload_n 0, 0, 0, 0, .null), (.getfield 535, 11, 76, 0, .null), (.isub, 0, 0, 0, .null), (.i2l, 0, 0, 0, .null), (.lmul, 0, 0, 0, .null)]
theorem kX11_speedNow_0 : kx_oks kxL_X11 false cX11_speedNow 0 bX11_speedNow_0 = true := by decide +kernel
def bX11_speedNow_31 : List kx_O := [(.lreturn, 0, 0, 0, .null)]
theorem kX11_speedNow_31 : kx_oks kxL_X11 false cX11_speedNow 31 bX11_speedNow_31 = true := by decide +kernel
theorem dX11_speedNow_28 : decode cX11_speedNow 28 = .ok (.invokestatic 547, 3) := by decide +kernel
set_option maxRecDepth 100000 in
set_option maxHeartbeats 4000000 in
theorem ct_X11_speedNow (l : Launch) (G : kx_G) {M : Nat → Int32} {A : Nat → Nat → Int32} {L : Nat → Nat → Int64} {R : kx_P} {sz : Nat} (hz : ¬ 60 * (M 77 - M 76).toInt64 = 0)  : kx_M l G sX11_speedNow 2 0 0 [.ref 93] (mW M A L R) sz (some (.long (ck_sp (M 76, M 77, M 78, M 79)))) (mW M A L R) sz := by
  refine kx_mk kx_tab kxLok_X11 (ini := false) [some (.ref 93)] ⟨by decide, rfl, by decide, by decide⟩ (⟨_, rfl⟩) rfl rfl (fun g hB hC => ?_)
  refine hB bX11_speedNow_0 _ _ _ _ _ _ _ kX11_speedNow_0 ?_
  dsimp only [bX11_speedNow_0, kx_wp, kx_step, kx_lI, kx_lL, kx_lA, kx_gl, kx_pI, kx_pL, kx_pR, kx_pA, kx_pV, kx_s1, kx_s2, kx_sl, kx_pre, kx_c2, kx_pl, kx_cmp, kx_oF, kx_eqN, kx_nil, kx_c1, kx_ft, kx_aI, kx_aL, kx_aR, kx_ln, Nat.reduceAdd, Option.toList, List.cons_append, List.nil_append, mW_o, mf_79, mf_78, mf_77, mf_76]
  repeat' apply And.intro
  all_goals try (first | with_reducible assumption | (with_reducible refine ck_nzI ?_; simp; done) | (with_reducible refine ck_nzL ?_; simp; done) | (with_reducible refine vp_in_nI ?_ ?_ <;> first | omega | decide) | (with_reducible refine Nat.le_of_ble_eq_true ?_; rfl) | omega)
  refine hC.2.1 547 _ _ _ _ _ _ _ _ _ _ _ _ _ _ _ _ _ lX11_547 (ct_X11_down l G hz) rfl rfl (Nat.le_of_ble_eq_true rfl) (by decide) (by decide) (by omega) (by omega) dX11_speedNow_28 ?_
  refine hB bX11_speedNow_31 _ _ _ _ _ _ _ kX11_speedNow_31 ?_
  dsimp only [bX11_speedNow_31, kx_wp, kx_step, kx_lI, kx_lL, kx_lA, kx_gl, kx_pI, kx_pL, kx_pR, kx_pA, kx_pV, kx_s1, kx_s2, kx_sl, kx_pre, kx_c2, kx_pl, kx_cmp, kx_oF, kx_eqN, kx_nil, kx_c1, kx_ft, kx_aI, kx_aL, kx_aR, kx_ln, Nat.reduceAdd, Option.toList, List.cons_append, List.nil_append, mW_o, mf_79, mf_78, mf_77, mf_76]
  all_goals (repeat' apply And.intro)
  all_goals ((try clear hB hC); first | exact True.intro | with_reducible rfl | with_reducible assumption | (with_reducible refine vp_in_nI ?_ ?_ <;> first | omega | decide) | exact Nat.le_of_ble_eq_true rfl | (with_reducible refine ck_nzI ?_; simp; done) | (with_reducible refine ck_nzL ?_; simp; done) | (simp only [pk_us, pk_uLs, ck_sp, ck_dn, ↓reduceIte, not_true_eq_false, not_false_eq_true]; done) | (simp only [ck_sp, ck_dn, ↓reduceIte, not_true_eq_false, not_false_eq_true]; with_reducible rfl) | skip)

def bX11_reckoned_0 : List kx_O := [(.aload_n 0, 0, 0, 0, .null), (.iconst 0, 0, 0, 0, .int 0), (.putfield 1, 11, 0, 0, .null), (.aload_n 0, 0, 0, 0, .null), (.iload_n 1, 1, 0, 0, .null)]
theorem kX11_reckoned_0 : kx_oks kxL_X11 false cX11_reckoned 0 bX11_reckoned_0 = true := by decide +kernel
def bX11_reckoned_10 : List kx_O := [(.ifCond .eq 18, 28, 0, 0, .null)]
theorem kX11_reckoned_10 : kx_oks kxL_X11 false cX11_reckoned 10 bX11_reckoned_10 = true := by decide +kernel
def bX11_reckoned_13 : List kx_O := [(.aload_n 0, 0, 0, 0, .null), (.iload_n 2, 2, 0, 0, .null), (.iconst 0, 0, 0, 0, .int 0), (.ldc 223, 0, 0, 0, .int (100000))]
theorem kX11_reckoned_13 : kx_oks kxL_X11 false cX11_reckoned 13 bX11_reckoned_13 = true := by decide +kernel
def bX11_reckoned_21 : List kx_O := [(.iconst 2, 0, 0, 0, .int 2)]
theorem kX11_reckoned_21 : kx_oks kxL_X11 false cX11_reckoned 21 bX11_reckoned_21 = true := by decide +kernel
def bX11_reckoned_25 : List kx_O := [(.ifCond .ne 5, 30, 0, 0, .null)]
theorem kX11_reckoned_25 : kx_oks kxL_X11 false cX11_reckoned 25 bX11_reckoned_25 = true := by decide +kernel
def bX11_reckoned_28 : List kx_O := [(.lconst 0, 0, 0, 0, .long 0), (.lreturn, 0, 0, 0, .null)]
theorem kX11_reckoned_28 : kx_oks kxL_X11 false cX11_reckoned 28 bX11_reckoned_28 = true := by decide +kernel
def bX11_reckoned_30 : List kx_O := [(.aload_n 0, 0, 0, 0, .null), (.iload_n 1, 1, 0, 0, .null), (.iload_n 3, 3, 0, 0, .null)]
theorem kX11_reckoned_30 : kx_oks kxL_X11 false cX11_reckoned 30 bX11_reckoned_30 = true := by decide +kernel
def bX11_reckoned_36 : List kx_O := [(.aload_n 0, 0, 0, 0, .null), (.getfield 538, 11, 77, 0, .null), (.iconst (-1), 0, 0, 0, .int (-1)), (.if_icmp .ne 9, 50, 0, 0, .null)]
theorem kX11_reckoned_36 : kx_oks kxL_X11 false cX11_reckoned 36 bX11_reckoned_36 = true := by decide +kernel
def bX11_reckoned_44 : List kx_O := [(.ldc2_w 554, 0, 0, 0, .long (-2000000000)), (.goto 8, 55, 0, 0, .null)]
theorem kX11_reckoned_44 : kx_oks kxL_X11 false cX11_reckoned 44 bX11_reckoned_44 = true := by decide +kernel
def bX11_reckoned_50 : List kx_O := [(.aload_n 0, 0, 0, 0, .null), (.iload_n 2, 2, 0, 0, .null)]
theorem kX11_reckoned_50 : kx_oks kxL_X11 false cX11_reckoned 50 bX11_reckoned_50 = true := by decide +kernel
def bX11_reckoned_55 : List kx_O := [(.lreturn, 0, 0, 0, .null)]
theorem kX11_reckoned_55 : kx_oks kxL_X11 false cX11_reckoned 55 bX11_reckoned_55 = true := by decide +kernel
theorem dX11_reckoned_7 : decode cX11_reckoned 7 = .ok (.invokevirtual 358, 3) := by decide +kernel
theorem dX11_reckoned_18 : decode cX11_reckoned 18 = .ok (.invokestatic 167, 3) := by decide +kernel
theorem dX11_reckoned_22 : decode cX11_reckoned 22 = .ok (.invokevirtual 171, 3) := by decide +kernel
theorem dX11_reckoned_33 : decode cX11_reckoned 33 = .ok (.invokevirtual 551, 3) := by decide +kernel
theorem dX11_reckoned_52 : decode cX11_reckoned 52 = .ok (.invokevirtual 556, 3) := by decide +kernel
set_option maxRecDepth 100000 in
set_option maxHeartbeats 4000000 in
theorem ct_X11_reckoned_v (l : Launch) (G : kx_G) {M : Nat → Int32} {A : Nat → Nat → Int32} {L : Nat → Nat → Int64} {R : kx_P} {sz : Nat} {cl c : Nat} (h21 : M 21 = nI cl) (hcl : cl ≤ 8) (hc : c < cl) {i t : Int32} (hi : 0 ≤ i ∧ i ≤ 100000) {n : Nat} (h71 : M 71 = nI n) (hn : n ≤ 100) {a b x y : Int32} (hq : ck_ft A (nI c) t (M 78) (M 79) n = (a, b, x, y)) (hb : b = -1)  : kx_M l G sX11_reckoned 3 0 0 [.ref 93, .int (nI c), .int (i), .int (t)] (mW M A L R) sz (some (.long (-2000000000))) (mW (ck_q4 (upd M 0 0) (a, b, x, y)) A L R) sz := by
  have h71b : upd M 0 0 71 = nI n := by rw [show upd M 0 0 71 = M 71 from rfl]; exact h71
  refine kx_mk kx_tab kxLok_X11 (ini := false) [some (.ref 93), some (.int (nI c)), some (.int (i)), some (.int (t))] ⟨by decide, rfl, by decide, by decide⟩ (⟨_, rfl⟩) rfl rfl (fun g hB hC => ?_)
  refine hB bX11_reckoned_0 _ _ _ _ _ _ _ kX11_reckoned_0 ?_
  dsimp only [bX11_reckoned_0, kx_wp, kx_step, kx_lI, kx_lL, kx_lA, kx_gl, kx_pI, kx_pL, kx_pR, kx_pA, kx_pV, kx_s1, kx_s2, kx_sl, kx_pre, kx_c2, kx_pl, kx_cmp, kx_oF, kx_eqN, kx_nil, kx_c1, kx_ft, kx_aI, kx_aL, kx_aR, kx_ln, Nat.reduceAdd, Option.toList, List.cons_append, List.nil_append, mW_o, mf_0, mf_77]
  repeat (simp only [mu_0, mW_so, show upd M 0 0 77 = M 77 from rfl, ck_q4_76, ck_q4_77, ck_q4_78, ck_q4_79, ck_q4_0, ck_q4r_76, ck_q4r_77, ck_q4r_78, ck_q4r_79, ck_q4r_71, show upd M 0 0 78 = M 78 from rfl, show upd M 0 0 79 = M 79 from rfl, hq]; try dsimp only [kx_wp, kx_step, kx_lI, kx_lL, kx_lA, kx_gl, kx_pI, kx_pL, kx_pR, kx_pA, kx_pV, kx_s1, kx_s2, kx_sl, kx_pre, kx_c2, kx_pl, kx_cmp, kx_oF, kx_eqN, kx_nil, kx_c1, kx_ft, kx_aI, kx_aL, kx_aR, kx_ln, Nat.reduceAdd, Option.toList, List.cons_append, List.nil_append, mW_o, mf_0, mf_77])
  repeat' apply And.intro
  all_goals try (first | with_reducible assumption | (with_reducible refine ck_nzI ?_; simp; done) | (with_reducible refine ck_nzL ?_; simp; done) | (with_reducible refine vp_in_nI ?_ ?_ <;> first | omega | decide) | (with_reducible refine Nat.le_of_ble_eq_true ?_; rfl) | omega)
  refine hC.1 358 _ _ _ _ _ _ _ 11 _ _ _ _ _ _ _ _ _ _ _ _ lX11_358 (ct_X11_isClock_t l G (M := upd M 0 0) h21 hcl hc rfl) ⟨by decide, rfl⟩ (mW_o) rfl rfl (Nat.le_of_ble_eq_true rfl) (by decide) (by decide) (by omega) (by omega) dX11_reckoned_7 ?_
  refine hB bX11_reckoned_10 _ _ _ _ _ _ _ kX11_reckoned_10 ?_
  dsimp only [bX11_reckoned_10, kx_wp, kx_step, kx_lI, kx_lL, kx_lA, kx_gl, kx_pI, kx_pL, kx_pR, kx_pA, kx_pV, kx_s1, kx_s2, kx_sl, kx_pre, kx_c2, kx_pl, kx_cmp, kx_oF, kx_eqN, kx_nil, kx_c1, kx_ft, kx_aI, kx_aL, kx_aR, kx_ln, Nat.reduceAdd, Option.toList, List.cons_append, List.nil_append, mW_o, mf_0, mf_77]
  repeat (simp only [mu_0, mW_so, show upd M 0 0 77 = M 77 from rfl, ck_q4_76, ck_q4_77, ck_q4_78, ck_q4_79, ck_q4_0, ck_q4r_76, ck_q4r_77, ck_q4r_78, ck_q4r_79, ck_q4r_71, show upd M 0 0 78 = M 78 from rfl, show upd M 0 0 79 = M 79 from rfl, hq]; try dsimp only [kx_wp, kx_step, kx_lI, kx_lL, kx_lA, kx_gl, kx_pI, kx_pL, kx_pR, kx_pA, kx_pV, kx_s1, kx_s2, kx_sl, kx_pre, kx_c2, kx_pl, kx_cmp, kx_oF, kx_eqN, kx_nil, kx_c1, kx_ft, kx_aI, kx_aL, kx_aR, kx_ln, Nat.reduceAdd, Option.toList, List.cons_append, List.nil_append, mW_o, mf_0, mf_77])
  repeat' apply And.intro
  all_goals try (first | with_reducible assumption | (with_reducible refine ck_nzI ?_; simp; done) | (with_reducible refine ck_nzL ?_; simp; done) | (with_reducible refine vp_in_nI ?_ ?_ <;> first | omega | decide) | (with_reducible refine Nat.le_of_ble_eq_true ?_; rfl) | omega)
  · intro zc10
    first | exact absurd rfl zc10 | exact absurd zc10 (by decide) | exact absurd (by decide) zc10 | (exfalso; exact zc41 hb) | (exfalso; simp_all; done)
  · intro zc10
    with_reducible first | have ze10 := Int32.not_lt.mpr zc10 | have ze10 := Int32.not_le.mpr zc10 | have ze10 := Int32.not_le.mp zc10 | have ze10 := Int32.not_lt.mp zc10 | have ze10 := Int64.not_lt.mpr zc10 | have ze10 := Int64.not_le.mpr zc10 | have ze10 := Int64.not_le.mp zc10 | have ze10 := Int64.not_lt.mp zc10 | have ze10 := Decidable.not_not.mp zc10 | have ze10 := zc10
    refine hB bX11_reckoned_13 _ _ _ _ _ _ _ kX11_reckoned_13 ?_
    dsimp only [bX11_reckoned_13, kx_wp, kx_step, kx_lI, kx_lL, kx_lA, kx_gl, kx_pI, kx_pL, kx_pR, kx_pA, kx_pV, kx_s1, kx_s2, kx_sl, kx_pre, kx_c2, kx_pl, kx_cmp, kx_oF, kx_eqN, kx_nil, kx_c1, kx_ft, kx_aI, kx_aL, kx_aR, kx_ln, Nat.reduceAdd, Option.toList, List.cons_append, List.nil_append, mW_o, mf_0, mf_77]
    repeat (simp only [mu_0, mW_so, show upd M 0 0 77 = M 77 from rfl, ck_q4_76, ck_q4_77, ck_q4_78, ck_q4_79, ck_q4_0, ck_q4r_76, ck_q4r_77, ck_q4r_78, ck_q4r_79, ck_q4r_71, show upd M 0 0 78 = M 78 from rfl, show upd M 0 0 79 = M 79 from rfl, hq]; try dsimp only [kx_wp, kx_step, kx_lI, kx_lL, kx_lA, kx_gl, kx_pI, kx_pL, kx_pR, kx_pA, kx_pV, kx_s1, kx_s2, kx_sl, kx_pre, kx_c2, kx_pl, kx_cmp, kx_oF, kx_eqN, kx_nil, kx_c1, kx_ft, kx_aI, kx_aL, kx_aR, kx_ln, Nat.reduceAdd, Option.toList, List.cons_append, List.nil_append, mW_o, mf_0, mf_77])
    repeat' apply And.intro
    all_goals try (first | with_reducible assumption | (with_reducible refine ck_nzI ?_; simp; done) | (with_reducible refine ck_nzL ?_; simp; done) | (with_reducible refine vp_in_nI ?_ ?_ <;> first | omega | decide) | (with_reducible refine Nat.le_of_ble_eq_true ?_; rfl) | omega)
    refine hC.2.1 167 _ _ _ _ _ _ _ _ _ _ _ _ _ _ _ _ _ lX11_167 (ct_X11_within l G) rfl rfl (Nat.le_of_ble_eq_true rfl) (by decide) (by decide) (by omega) (by omega) dX11_reckoned_18 ?_
    refine hB bX11_reckoned_21 _ _ _ _ _ _ _ kX11_reckoned_21 ?_
    dsimp only [bX11_reckoned_21, kx_wp, kx_step, kx_lI, kx_lL, kx_lA, kx_gl, kx_pI, kx_pL, kx_pR, kx_pA, kx_pV, kx_s1, kx_s2, kx_sl, kx_pre, kx_c2, kx_pl, kx_cmp, kx_oF, kx_eqN, kx_nil, kx_c1, kx_ft, kx_aI, kx_aL, kx_aR, kx_ln, Nat.reduceAdd, Option.toList, List.cons_append, List.nil_append, mW_o, mf_0, mf_77]
    repeat (simp only [mu_0, mW_so, show upd M 0 0 77 = M 77 from rfl, ck_q4_76, ck_q4_77, ck_q4_78, ck_q4_79, ck_q4_0, ck_q4r_76, ck_q4r_77, ck_q4r_78, ck_q4r_79, ck_q4r_71, show upd M 0 0 78 = M 78 from rfl, show upd M 0 0 79 = M 79 from rfl, hq]; try dsimp only [kx_wp, kx_step, kx_lI, kx_lL, kx_lA, kx_gl, kx_pI, kx_pL, kx_pR, kx_pA, kx_pV, kx_s1, kx_s2, kx_sl, kx_pre, kx_c2, kx_pl, kx_cmp, kx_oF, kx_eqN, kx_nil, kx_c1, kx_ft, kx_aI, kx_aL, kx_aR, kx_ln, Nat.reduceAdd, Option.toList, List.cons_append, List.nil_append, mW_o, mf_0, mf_77])
    repeat' apply And.intro
    all_goals try (first | with_reducible assumption | (with_reducible refine ck_nzI ?_; simp; done) | (with_reducible refine ck_nzL ?_; simp; done) | (with_reducible refine vp_in_nI ?_ ?_ <;> first | omega | decide) | (with_reducible refine Nat.le_of_ble_eq_true ?_; rfl) | omega)
    rw [if_pos hi]
    refine hC.1 171 _ _ _ _ _ _ _ 11 _ _ _ _ _ _ _ _ _ _ _ _ lX11_171 (ct_X11_may_t l G (M := upd M 0 0) rfl) ⟨by decide, rfl⟩ (mW_o) rfl rfl (Nat.le_of_ble_eq_true rfl) (by decide) (by decide) (by omega) (by omega) dX11_reckoned_22 ?_
    refine hB bX11_reckoned_25 _ _ _ _ _ _ _ kX11_reckoned_25 ?_
    dsimp only [bX11_reckoned_25, kx_wp, kx_step, kx_lI, kx_lL, kx_lA, kx_gl, kx_pI, kx_pL, kx_pR, kx_pA, kx_pV, kx_s1, kx_s2, kx_sl, kx_pre, kx_c2, kx_pl, kx_cmp, kx_oF, kx_eqN, kx_nil, kx_c1, kx_ft, kx_aI, kx_aL, kx_aR, kx_ln, Nat.reduceAdd, Option.toList, List.cons_append, List.nil_append, mW_o, mf_0, mf_77]
    repeat (simp only [mu_0, mW_so, show upd M 0 0 77 = M 77 from rfl, ck_q4_76, ck_q4_77, ck_q4_78, ck_q4_79, ck_q4_0, ck_q4r_76, ck_q4r_77, ck_q4r_78, ck_q4r_79, ck_q4r_71, show upd M 0 0 78 = M 78 from rfl, show upd M 0 0 79 = M 79 from rfl, hq]; try dsimp only [kx_wp, kx_step, kx_lI, kx_lL, kx_lA, kx_gl, kx_pI, kx_pL, kx_pR, kx_pA, kx_pV, kx_s1, kx_s2, kx_sl, kx_pre, kx_c2, kx_pl, kx_cmp, kx_oF, kx_eqN, kx_nil, kx_c1, kx_ft, kx_aI, kx_aL, kx_aR, kx_ln, Nat.reduceAdd, Option.toList, List.cons_append, List.nil_append, mW_o, mf_0, mf_77])
    repeat' apply And.intro
    all_goals try (first | with_reducible assumption | (with_reducible refine ck_nzI ?_; simp; done) | (with_reducible refine ck_nzL ?_; simp; done) | (with_reducible refine vp_in_nI ?_ ?_ <;> first | omega | decide) | (with_reducible refine Nat.le_of_ble_eq_true ?_; rfl) | omega)
    · intro zc25
      with_reducible first | have ze25 := Int32.not_lt.mpr zc25 | have ze25 := Int32.not_le.mpr zc25 | have ze25 := Int32.not_le.mp zc25 | have ze25 := Int32.not_lt.mp zc25 | have ze25 := Int64.not_lt.mpr zc25 | have ze25 := Int64.not_le.mpr zc25 | have ze25 := Int64.not_le.mp zc25 | have ze25 := Int64.not_lt.mp zc25 | have ze25 := Decidable.not_not.mp zc25 | have ze25 := zc25
      refine hB bX11_reckoned_30 _ _ _ _ _ _ _ kX11_reckoned_30 ?_
      dsimp only [bX11_reckoned_30, kx_wp, kx_step, kx_lI, kx_lL, kx_lA, kx_gl, kx_pI, kx_pL, kx_pR, kx_pA, kx_pV, kx_s1, kx_s2, kx_sl, kx_pre, kx_c2, kx_pl, kx_cmp, kx_oF, kx_eqN, kx_nil, kx_c1, kx_ft, kx_aI, kx_aL, kx_aR, kx_ln, Nat.reduceAdd, Option.toList, List.cons_append, List.nil_append, mW_o, mf_0, mf_77]
      repeat (simp only [mu_0, mW_so, show upd M 0 0 77 = M 77 from rfl, ck_q4_76, ck_q4_77, ck_q4_78, ck_q4_79, ck_q4_0, ck_q4r_76, ck_q4r_77, ck_q4r_78, ck_q4r_79, ck_q4r_71, show upd M 0 0 78 = M 78 from rfl, show upd M 0 0 79 = M 79 from rfl, hq]; try dsimp only [kx_wp, kx_step, kx_lI, kx_lL, kx_lA, kx_gl, kx_pI, kx_pL, kx_pR, kx_pA, kx_pV, kx_s1, kx_s2, kx_sl, kx_pre, kx_c2, kx_pl, kx_cmp, kx_oF, kx_eqN, kx_nil, kx_c1, kx_ft, kx_aI, kx_aL, kx_aR, kx_ln, Nat.reduceAdd, Option.toList, List.cons_append, List.nil_append, mW_o, mf_0, mf_77])
      repeat' apply And.intro
      all_goals try (first | with_reducible assumption | (with_reducible refine ck_nzI ?_; simp; done) | (with_reducible refine ck_nzL ?_; simp; done) | (with_reducible refine vp_in_nI ?_ ?_ <;> first | omega | decide) | (with_reducible refine Nat.le_of_ble_eq_true ?_; rfl) | omega)
      refine hC.1 551 _ _ _ _ _ _ _ 11 _ _ _ _ _ _ _ _ _ _ _ _ lX11_551 (ct_X11_findTwo l G (M := upd M 0 0) (n := n) h71b hn) ⟨by decide, rfl⟩ (mW_o) rfl rfl (Nat.le_of_ble_eq_true rfl) (by decide) (by decide) (by omega) (by omega) dX11_reckoned_33 ?_
      refine hB bX11_reckoned_36 _ _ _ _ _ _ _ kX11_reckoned_36 ?_
      dsimp only [bX11_reckoned_36, kx_wp, kx_step, kx_lI, kx_lL, kx_lA, kx_gl, kx_pI, kx_pL, kx_pR, kx_pA, kx_pV, kx_s1, kx_s2, kx_sl, kx_pre, kx_c2, kx_pl, kx_cmp, kx_oF, kx_eqN, kx_nil, kx_c1, kx_ft, kx_aI, kx_aL, kx_aR, kx_ln, Nat.reduceAdd, Option.toList, List.cons_append, List.nil_append, mW_o, mf_0, mf_77]
      repeat (simp only [mu_0, mW_so, show upd M 0 0 77 = M 77 from rfl, ck_q4_76, ck_q4_77, ck_q4_78, ck_q4_79, ck_q4_0, ck_q4r_76, ck_q4r_77, ck_q4r_78, ck_q4r_79, ck_q4r_71, show upd M 0 0 78 = M 78 from rfl, show upd M 0 0 79 = M 79 from rfl, hq]; try dsimp only [kx_wp, kx_step, kx_lI, kx_lL, kx_lA, kx_gl, kx_pI, kx_pL, kx_pR, kx_pA, kx_pV, kx_s1, kx_s2, kx_sl, kx_pre, kx_c2, kx_pl, kx_cmp, kx_oF, kx_eqN, kx_nil, kx_c1, kx_ft, kx_aI, kx_aL, kx_aR, kx_ln, Nat.reduceAdd, Option.toList, List.cons_append, List.nil_append, mW_o, mf_0, mf_77])
      repeat' apply And.intro
      all_goals try (first | with_reducible assumption | (with_reducible refine ck_nzI ?_; simp; done) | (with_reducible refine ck_nzL ?_; simp; done) | (with_reducible refine vp_in_nI ?_ ?_ <;> first | omega | decide) | (with_reducible refine Nat.le_of_ble_eq_true ?_; rfl) | omega)
      · intro zc41
        first | exact absurd rfl zc41 | exact absurd zc41 (by decide) | exact absurd (by decide) zc41 | (exfalso; exact zc41 hb) | (exfalso; simp_all; done)
      · intro zc41
        with_reducible first | have ze41 := Int32.not_lt.mpr zc41 | have ze41 := Int32.not_le.mpr zc41 | have ze41 := Int32.not_le.mp zc41 | have ze41 := Int32.not_lt.mp zc41 | have ze41 := Int64.not_lt.mpr zc41 | have ze41 := Int64.not_le.mpr zc41 | have ze41 := Int64.not_le.mp zc41 | have ze41 := Int64.not_lt.mp zc41 | have ze41 := Decidable.not_not.mp zc41 | have ze41 := zc41
        refine hB bX11_reckoned_44 _ _ _ _ _ _ _ kX11_reckoned_44 ?_
        dsimp only [bX11_reckoned_44, kx_wp, kx_step, kx_lI, kx_lL, kx_lA, kx_gl, kx_pI, kx_pL, kx_pR, kx_pA, kx_pV, kx_s1, kx_s2, kx_sl, kx_pre, kx_c2, kx_pl, kx_cmp, kx_oF, kx_eqN, kx_nil, kx_c1, kx_ft, kx_aI, kx_aL, kx_aR, kx_ln, Nat.reduceAdd, Option.toList, List.cons_append, List.nil_append, mW_o, mf_0, mf_77]
        repeat (simp only [mu_0, mW_so, show upd M 0 0 77 = M 77 from rfl, ck_q4_76, ck_q4_77, ck_q4_78, ck_q4_79, ck_q4_0, ck_q4r_76, ck_q4r_77, ck_q4r_78, ck_q4r_79, ck_q4r_71, show upd M 0 0 78 = M 78 from rfl, show upd M 0 0 79 = M 79 from rfl, hq]; try dsimp only [kx_wp, kx_step, kx_lI, kx_lL, kx_lA, kx_gl, kx_pI, kx_pL, kx_pR, kx_pA, kx_pV, kx_s1, kx_s2, kx_sl, kx_pre, kx_c2, kx_pl, kx_cmp, kx_oF, kx_eqN, kx_nil, kx_c1, kx_ft, kx_aI, kx_aL, kx_aR, kx_ln, Nat.reduceAdd, Option.toList, List.cons_append, List.nil_append, mW_o, mf_0, mf_77])
        repeat' apply And.intro
        all_goals try (first | with_reducible assumption | (with_reducible refine ck_nzI ?_; simp; done) | (with_reducible refine ck_nzL ?_; simp; done) | (with_reducible refine vp_in_nI ?_ ?_ <;> first | omega | decide) | (with_reducible refine Nat.le_of_ble_eq_true ?_; rfl) | omega)
        refine hB bX11_reckoned_55 _ _ _ _ _ _ _ kX11_reckoned_55 ?_
        dsimp only [bX11_reckoned_55, kx_wp, kx_step, kx_lI, kx_lL, kx_lA, kx_gl, kx_pI, kx_pL, kx_pR, kx_pA, kx_pV, kx_s1, kx_s2, kx_sl, kx_pre, kx_c2, kx_pl, kx_cmp, kx_oF, kx_eqN, kx_nil, kx_c1, kx_ft, kx_aI, kx_aL, kx_aR, kx_ln, Nat.reduceAdd, Option.toList, List.cons_append, List.nil_append, mW_o, mf_0, mf_77]
        repeat (simp only [mu_0, mW_so, show upd M 0 0 77 = M 77 from rfl, ck_q4_76, ck_q4_77, ck_q4_78, ck_q4_79, ck_q4_0, ck_q4r_76, ck_q4r_77, ck_q4r_78, ck_q4r_79, ck_q4r_71, show upd M 0 0 78 = M 78 from rfl, show upd M 0 0 79 = M 79 from rfl, hq]; try dsimp only [kx_wp, kx_step, kx_lI, kx_lL, kx_lA, kx_gl, kx_pI, kx_pL, kx_pR, kx_pA, kx_pV, kx_s1, kx_s2, kx_sl, kx_pre, kx_c2, kx_pl, kx_cmp, kx_oF, kx_eqN, kx_nil, kx_c1, kx_ft, kx_aI, kx_aL, kx_aR, kx_ln, Nat.reduceAdd, Option.toList, List.cons_append, List.nil_append, mW_o, mf_0, mf_77])
        all_goals (repeat' apply And.intro)
        all_goals ((try clear hB hC); first | exact True.intro | with_reducible rfl | with_reducible assumption | (with_reducible refine vp_in_nI ?_ ?_ <;> first | omega | decide) | exact Nat.le_of_ble_eq_true rfl | (with_reducible refine ck_nzI ?_; simp; done) | (with_reducible refine ck_nzL ?_; simp; done) | (simp only [pk_us, pk_uLs, ze10, ze25, eq_true ze41, ↓reduceIte, not_true_eq_false, not_false_eq_true]; done) | (simp only [ze10, ze25, eq_true ze41, ↓reduceIte, not_true_eq_false, not_false_eq_true]; with_reducible rfl) | skip)
    · intro zc25
      first | exact absurd rfl zc25 | exact absurd zc25 (by decide) | exact absurd (by decide) zc25 | (exfalso; exact zc41 hb) | (exfalso; simp_all; done)

set_option maxRecDepth 100000 in
set_option maxHeartbeats 4000000 in
theorem ct_X11_reckoned_t (l : Launch) (G : kx_G) {M : Nat → Int32} {A : Nat → Nat → Int32} {L : Nat → Nat → Int64} {R : kx_P} {sz : Nat} {cl c : Nat} (h21 : M 21 = nI cl) (hcl : cl ≤ 8) (hc : c < cl) {i t : Int32} (hi : 0 ≤ i ∧ i ≤ 100000) {n : Nat} (h71 : M 71 = nI n) (hn : n ≤ 100) {a b x y : Int32} (hq : ck_ft A (nI c) t (M 78) (M 79) n = (a, b, x, y)) (hb : ¬ b = -1) (hz : ¬ a = -1 → ¬ (b - a).toInt64 = 0)  : kx_M l G sX11_reckoned 3 0 0 [.ref 93, .int (nI c), .int (i), .int (t)] (mW M A L R) sz (some (.long (ck_rk (a, b, x, y) i))) (mW (ck_q4 (upd M 0 0) (a, b, x, y)) A L R) sz := by
  have h71b : upd M 0 0 71 = nI n := by rw [show upd M 0 0 71 = M 71 from rfl]; exact h71
  refine kx_mk kx_tab kxLok_X11 (ini := false) [some (.ref 93), some (.int (nI c)), some (.int (i)), some (.int (t))] ⟨by decide, rfl, by decide, by decide⟩ (⟨_, rfl⟩) rfl rfl (fun g hB hC => ?_)
  refine hB bX11_reckoned_0 _ _ _ _ _ _ _ kX11_reckoned_0 ?_
  dsimp only [bX11_reckoned_0, kx_wp, kx_step, kx_lI, kx_lL, kx_lA, kx_gl, kx_pI, kx_pL, kx_pR, kx_pA, kx_pV, kx_s1, kx_s2, kx_sl, kx_pre, kx_c2, kx_pl, kx_cmp, kx_oF, kx_eqN, kx_nil, kx_c1, kx_ft, kx_aI, kx_aL, kx_aR, kx_ln, Nat.reduceAdd, Option.toList, List.cons_append, List.nil_append, mW_o, mf_0, mf_77]
  repeat (simp only [mu_0, mW_so, show upd M 0 0 77 = M 77 from rfl, ck_q4_76, ck_q4_77, ck_q4_78, ck_q4_79, ck_q4_0, ck_q4r_76, ck_q4r_77, ck_q4r_78, ck_q4r_79, ck_q4r_71, show upd M 0 0 78 = M 78 from rfl, show upd M 0 0 79 = M 79 from rfl, hq]; try dsimp only [kx_wp, kx_step, kx_lI, kx_lL, kx_lA, kx_gl, kx_pI, kx_pL, kx_pR, kx_pA, kx_pV, kx_s1, kx_s2, kx_sl, kx_pre, kx_c2, kx_pl, kx_cmp, kx_oF, kx_eqN, kx_nil, kx_c1, kx_ft, kx_aI, kx_aL, kx_aR, kx_ln, Nat.reduceAdd, Option.toList, List.cons_append, List.nil_append, mW_o, mf_0, mf_77])
  repeat' apply And.intro
  all_goals try (first | with_reducible assumption | (with_reducible refine ck_nzI ?_; simp; done) | (with_reducible refine ck_nzL ?_; simp; done) | (with_reducible refine vp_in_nI ?_ ?_ <;> first | omega | decide) | (with_reducible refine Nat.le_of_ble_eq_true ?_; rfl) | omega)
  refine hC.1 358 _ _ _ _ _ _ _ 11 _ _ _ _ _ _ _ _ _ _ _ _ lX11_358 (ct_X11_isClock_t l G (M := upd M 0 0) h21 hcl hc rfl) ⟨by decide, rfl⟩ (mW_o) rfl rfl (Nat.le_of_ble_eq_true rfl) (by decide) (by decide) (by omega) (by omega) dX11_reckoned_7 ?_
  refine hB bX11_reckoned_10 _ _ _ _ _ _ _ kX11_reckoned_10 ?_
  dsimp only [bX11_reckoned_10, kx_wp, kx_step, kx_lI, kx_lL, kx_lA, kx_gl, kx_pI, kx_pL, kx_pR, kx_pA, kx_pV, kx_s1, kx_s2, kx_sl, kx_pre, kx_c2, kx_pl, kx_cmp, kx_oF, kx_eqN, kx_nil, kx_c1, kx_ft, kx_aI, kx_aL, kx_aR, kx_ln, Nat.reduceAdd, Option.toList, List.cons_append, List.nil_append, mW_o, mf_0, mf_77]
  repeat (simp only [mu_0, mW_so, show upd M 0 0 77 = M 77 from rfl, ck_q4_76, ck_q4_77, ck_q4_78, ck_q4_79, ck_q4_0, ck_q4r_76, ck_q4r_77, ck_q4r_78, ck_q4r_79, ck_q4r_71, show upd M 0 0 78 = M 78 from rfl, show upd M 0 0 79 = M 79 from rfl, hq]; try dsimp only [kx_wp, kx_step, kx_lI, kx_lL, kx_lA, kx_gl, kx_pI, kx_pL, kx_pR, kx_pA, kx_pV, kx_s1, kx_s2, kx_sl, kx_pre, kx_c2, kx_pl, kx_cmp, kx_oF, kx_eqN, kx_nil, kx_c1, kx_ft, kx_aI, kx_aL, kx_aR, kx_ln, Nat.reduceAdd, Option.toList, List.cons_append, List.nil_append, mW_o, mf_0, mf_77])
  repeat' apply And.intro
  all_goals try (first | with_reducible assumption | (with_reducible refine ck_nzI ?_; simp; done) | (with_reducible refine ck_nzL ?_; simp; done) | (with_reducible refine vp_in_nI ?_ ?_ <;> first | omega | decide) | (with_reducible refine Nat.le_of_ble_eq_true ?_; rfl) | omega)
  · intro zc10
    first | exact absurd rfl zc10 | exact absurd zc10 (by decide) | exact absurd (by decide) zc10 | (exfalso; exact zc41 hb) | (exfalso; simp_all; done)
  · intro zc10
    with_reducible first | have ze10 := Int32.not_lt.mpr zc10 | have ze10 := Int32.not_le.mpr zc10 | have ze10 := Int32.not_le.mp zc10 | have ze10 := Int32.not_lt.mp zc10 | have ze10 := Int64.not_lt.mpr zc10 | have ze10 := Int64.not_le.mpr zc10 | have ze10 := Int64.not_le.mp zc10 | have ze10 := Int64.not_lt.mp zc10 | have ze10 := Decidable.not_not.mp zc10 | have ze10 := zc10
    refine hB bX11_reckoned_13 _ _ _ _ _ _ _ kX11_reckoned_13 ?_
    dsimp only [bX11_reckoned_13, kx_wp, kx_step, kx_lI, kx_lL, kx_lA, kx_gl, kx_pI, kx_pL, kx_pR, kx_pA, kx_pV, kx_s1, kx_s2, kx_sl, kx_pre, kx_c2, kx_pl, kx_cmp, kx_oF, kx_eqN, kx_nil, kx_c1, kx_ft, kx_aI, kx_aL, kx_aR, kx_ln, Nat.reduceAdd, Option.toList, List.cons_append, List.nil_append, mW_o, mf_0, mf_77]
    repeat (simp only [mu_0, mW_so, show upd M 0 0 77 = M 77 from rfl, ck_q4_76, ck_q4_77, ck_q4_78, ck_q4_79, ck_q4_0, ck_q4r_76, ck_q4r_77, ck_q4r_78, ck_q4r_79, ck_q4r_71, show upd M 0 0 78 = M 78 from rfl, show upd M 0 0 79 = M 79 from rfl, hq]; try dsimp only [kx_wp, kx_step, kx_lI, kx_lL, kx_lA, kx_gl, kx_pI, kx_pL, kx_pR, kx_pA, kx_pV, kx_s1, kx_s2, kx_sl, kx_pre, kx_c2, kx_pl, kx_cmp, kx_oF, kx_eqN, kx_nil, kx_c1, kx_ft, kx_aI, kx_aL, kx_aR, kx_ln, Nat.reduceAdd, Option.toList, List.cons_append, List.nil_append, mW_o, mf_0, mf_77])
    repeat' apply And.intro
    all_goals try (first | with_reducible assumption | (with_reducible refine ck_nzI ?_; simp; done) | (with_reducible refine ck_nzL ?_; simp; done) | (with_reducible refine vp_in_nI ?_ ?_ <;> first | omega | decide) | (with_reducible refine Nat.le_of_ble_eq_true ?_; rfl) | omega)
    refine hC.2.1 167 _ _ _ _ _ _ _ _ _ _ _ _ _ _ _ _ _ lX11_167 (ct_X11_within l G) rfl rfl (Nat.le_of_ble_eq_true rfl) (by decide) (by decide) (by omega) (by omega) dX11_reckoned_18 ?_
    refine hB bX11_reckoned_21 _ _ _ _ _ _ _ kX11_reckoned_21 ?_
    dsimp only [bX11_reckoned_21, kx_wp, kx_step, kx_lI, kx_lL, kx_lA, kx_gl, kx_pI, kx_pL, kx_pR, kx_pA, kx_pV, kx_s1, kx_s2, kx_sl, kx_pre, kx_c2, kx_pl, kx_cmp, kx_oF, kx_eqN, kx_nil, kx_c1, kx_ft, kx_aI, kx_aL, kx_aR, kx_ln, Nat.reduceAdd, Option.toList, List.cons_append, List.nil_append, mW_o, mf_0, mf_77]
    repeat (simp only [mu_0, mW_so, show upd M 0 0 77 = M 77 from rfl, ck_q4_76, ck_q4_77, ck_q4_78, ck_q4_79, ck_q4_0, ck_q4r_76, ck_q4r_77, ck_q4r_78, ck_q4r_79, ck_q4r_71, show upd M 0 0 78 = M 78 from rfl, show upd M 0 0 79 = M 79 from rfl, hq]; try dsimp only [kx_wp, kx_step, kx_lI, kx_lL, kx_lA, kx_gl, kx_pI, kx_pL, kx_pR, kx_pA, kx_pV, kx_s1, kx_s2, kx_sl, kx_pre, kx_c2, kx_pl, kx_cmp, kx_oF, kx_eqN, kx_nil, kx_c1, kx_ft, kx_aI, kx_aL, kx_aR, kx_ln, Nat.reduceAdd, Option.toList, List.cons_append, List.nil_append, mW_o, mf_0, mf_77])
    repeat' apply And.intro
    all_goals try (first | with_reducible assumption | (with_reducible refine ck_nzI ?_; simp; done) | (with_reducible refine ck_nzL ?_; simp; done) | (with_reducible refine vp_in_nI ?_ ?_ <;> first | omega | decide) | (with_reducible refine Nat.le_of_ble_eq_true ?_; rfl) | omega)
    rw [if_pos hi]
    refine hC.1 171 _ _ _ _ _ _ _ 11 _ _ _ _ _ _ _ _ _ _ _ _ lX11_171 (ct_X11_may_t l G (M := upd M 0 0) rfl) ⟨by decide, rfl⟩ (mW_o) rfl rfl (Nat.le_of_ble_eq_true rfl) (by decide) (by decide) (by omega) (by omega) dX11_reckoned_22 ?_
    refine hB bX11_reckoned_25 _ _ _ _ _ _ _ kX11_reckoned_25 ?_
    dsimp only [bX11_reckoned_25, kx_wp, kx_step, kx_lI, kx_lL, kx_lA, kx_gl, kx_pI, kx_pL, kx_pR, kx_pA, kx_pV, kx_s1, kx_s2, kx_sl, kx_pre, kx_c2, kx_pl, kx_cmp, kx_oF, kx_eqN, kx_nil, kx_c1, kx_ft, kx_aI, kx_aL, kx_aR, kx_ln, Nat.reduceAdd, Option.toList, List.cons_append, List.nil_append, mW_o, mf_0, mf_77]
    repeat (simp only [mu_0, mW_so, show upd M 0 0 77 = M 77 from rfl, ck_q4_76, ck_q4_77, ck_q4_78, ck_q4_79, ck_q4_0, ck_q4r_76, ck_q4r_77, ck_q4r_78, ck_q4r_79, ck_q4r_71, show upd M 0 0 78 = M 78 from rfl, show upd M 0 0 79 = M 79 from rfl, hq]; try dsimp only [kx_wp, kx_step, kx_lI, kx_lL, kx_lA, kx_gl, kx_pI, kx_pL, kx_pR, kx_pA, kx_pV, kx_s1, kx_s2, kx_sl, kx_pre, kx_c2, kx_pl, kx_cmp, kx_oF, kx_eqN, kx_nil, kx_c1, kx_ft, kx_aI, kx_aL, kx_aR, kx_ln, Nat.reduceAdd, Option.toList, List.cons_append, List.nil_append, mW_o, mf_0, mf_77])
    repeat' apply And.intro
    all_goals try (first | with_reducible assumption | (with_reducible refine ck_nzI ?_; simp; done) | (with_reducible refine ck_nzL ?_; simp; done) | (with_reducible refine vp_in_nI ?_ ?_ <;> first | omega | decide) | (with_reducible refine Nat.le_of_ble_eq_true ?_; rfl) | omega)
    · intro zc25
      with_reducible first | have ze25 := Int32.not_lt.mpr zc25 | have ze25 := Int32.not_le.mpr zc25 | have ze25 := Int32.not_le.mp zc25 | have ze25 := Int32.not_lt.mp zc25 | have ze25 := Int64.not_lt.mpr zc25 | have ze25 := Int64.not_le.mpr zc25 | have ze25 := Int64.not_le.mp zc25 | have ze25 := Int64.not_lt.mp zc25 | have ze25 := Decidable.not_not.mp zc25 | have ze25 := zc25
      refine hB bX11_reckoned_30 _ _ _ _ _ _ _ kX11_reckoned_30 ?_
      dsimp only [bX11_reckoned_30, kx_wp, kx_step, kx_lI, kx_lL, kx_lA, kx_gl, kx_pI, kx_pL, kx_pR, kx_pA, kx_pV, kx_s1, kx_s2, kx_sl, kx_pre, kx_c2, kx_pl, kx_cmp, kx_oF, kx_eqN, kx_nil, kx_c1, kx_ft, kx_aI, kx_aL, kx_aR, kx_ln, Nat.reduceAdd, Option.toList, List.cons_append, List.nil_append, mW_o, mf_0, mf_77]
      repeat (simp only [mu_0, mW_so, show upd M 0 0 77 = M 77 from rfl, ck_q4_76, ck_q4_77, ck_q4_78, ck_q4_79, ck_q4_0, ck_q4r_76, ck_q4r_77, ck_q4r_78, ck_q4r_79, ck_q4r_71, show upd M 0 0 78 = M 78 from rfl, show upd M 0 0 79 = M 79 from rfl, hq]; try dsimp only [kx_wp, kx_step, kx_lI, kx_lL, kx_lA, kx_gl, kx_pI, kx_pL, kx_pR, kx_pA, kx_pV, kx_s1, kx_s2, kx_sl, kx_pre, kx_c2, kx_pl, kx_cmp, kx_oF, kx_eqN, kx_nil, kx_c1, kx_ft, kx_aI, kx_aL, kx_aR, kx_ln, Nat.reduceAdd, Option.toList, List.cons_append, List.nil_append, mW_o, mf_0, mf_77])
      repeat' apply And.intro
      all_goals try (first | with_reducible assumption | (with_reducible refine ck_nzI ?_; simp; done) | (with_reducible refine ck_nzL ?_; simp; done) | (with_reducible refine vp_in_nI ?_ ?_ <;> first | omega | decide) | (with_reducible refine Nat.le_of_ble_eq_true ?_; rfl) | omega)
      refine hC.1 551 _ _ _ _ _ _ _ 11 _ _ _ _ _ _ _ _ _ _ _ _ lX11_551 (ct_X11_findTwo l G (M := upd M 0 0) (n := n) h71b hn) ⟨by decide, rfl⟩ (mW_o) rfl rfl (Nat.le_of_ble_eq_true rfl) (by decide) (by decide) (by omega) (by omega) dX11_reckoned_33 ?_
      refine hB bX11_reckoned_36 _ _ _ _ _ _ _ kX11_reckoned_36 ?_
      dsimp only [bX11_reckoned_36, kx_wp, kx_step, kx_lI, kx_lL, kx_lA, kx_gl, kx_pI, kx_pL, kx_pR, kx_pA, kx_pV, kx_s1, kx_s2, kx_sl, kx_pre, kx_c2, kx_pl, kx_cmp, kx_oF, kx_eqN, kx_nil, kx_c1, kx_ft, kx_aI, kx_aL, kx_aR, kx_ln, Nat.reduceAdd, Option.toList, List.cons_append, List.nil_append, mW_o, mf_0, mf_77]
      repeat (simp only [mu_0, mW_so, show upd M 0 0 77 = M 77 from rfl, ck_q4_76, ck_q4_77, ck_q4_78, ck_q4_79, ck_q4_0, ck_q4r_76, ck_q4r_77, ck_q4r_78, ck_q4r_79, ck_q4r_71, show upd M 0 0 78 = M 78 from rfl, show upd M 0 0 79 = M 79 from rfl, hq]; try dsimp only [kx_wp, kx_step, kx_lI, kx_lL, kx_lA, kx_gl, kx_pI, kx_pL, kx_pR, kx_pA, kx_pV, kx_s1, kx_s2, kx_sl, kx_pre, kx_c2, kx_pl, kx_cmp, kx_oF, kx_eqN, kx_nil, kx_c1, kx_ft, kx_aI, kx_aL, kx_aR, kx_ln, Nat.reduceAdd, Option.toList, List.cons_append, List.nil_append, mW_o, mf_0, mf_77])
      repeat' apply And.intro
      all_goals try (first | with_reducible assumption | (with_reducible refine ck_nzI ?_; simp; done) | (with_reducible refine ck_nzL ?_; simp; done) | (with_reducible refine vp_in_nI ?_ ?_ <;> first | omega | decide) | (with_reducible refine Nat.le_of_ble_eq_true ?_; rfl) | omega)
      · intro zc41
        with_reducible first | have ze41 := Int32.not_lt.mpr zc41 | have ze41 := Int32.not_le.mpr zc41 | have ze41 := Int32.not_le.mp zc41 | have ze41 := Int32.not_lt.mp zc41 | have ze41 := Int64.not_lt.mpr zc41 | have ze41 := Int64.not_le.mpr zc41 | have ze41 := Int64.not_le.mp zc41 | have ze41 := Int64.not_lt.mp zc41 | have ze41 := Decidable.not_not.mp zc41 | have ze41 := zc41
        refine hB bX11_reckoned_50 _ _ _ _ _ _ _ kX11_reckoned_50 ?_
        dsimp only [bX11_reckoned_50, kx_wp, kx_step, kx_lI, kx_lL, kx_lA, kx_gl, kx_pI, kx_pL, kx_pR, kx_pA, kx_pV, kx_s1, kx_s2, kx_sl, kx_pre, kx_c2, kx_pl, kx_cmp, kx_oF, kx_eqN, kx_nil, kx_c1, kx_ft, kx_aI, kx_aL, kx_aR, kx_ln, Nat.reduceAdd, Option.toList, List.cons_append, List.nil_append, mW_o, mf_0, mf_77]
        repeat (simp only [mu_0, mW_so, show upd M 0 0 77 = M 77 from rfl, ck_q4_76, ck_q4_77, ck_q4_78, ck_q4_79, ck_q4_0, ck_q4r_76, ck_q4r_77, ck_q4r_78, ck_q4r_79, ck_q4r_71, show upd M 0 0 78 = M 78 from rfl, show upd M 0 0 79 = M 79 from rfl, hq]; try dsimp only [kx_wp, kx_step, kx_lI, kx_lL, kx_lA, kx_gl, kx_pI, kx_pL, kx_pR, kx_pA, kx_pV, kx_s1, kx_s2, kx_sl, kx_pre, kx_c2, kx_pl, kx_cmp, kx_oF, kx_eqN, kx_nil, kx_c1, kx_ft, kx_aI, kx_aL, kx_aR, kx_ln, Nat.reduceAdd, Option.toList, List.cons_append, List.nil_append, mW_o, mf_0, mf_77])
        repeat' apply And.intro
        all_goals try (first | with_reducible assumption | (with_reducible refine ck_nzI ?_; simp; done) | (with_reducible refine ck_nzL ?_; simp; done) | (with_reducible refine vp_in_nI ?_ ?_ <;> first | omega | decide) | (with_reducible refine Nat.le_of_ble_eq_true ?_; rfl) | omega)
        refine hC.1 556 _ _ _ _ _ _ _ 11 _ _ _ _ _ _ _ _ _ _ _ _ lX11_556 (ct_X11_reckon l G (M := ck_q4 (upd M 0 0) (a, b, x, y)) hz) ⟨by decide, rfl⟩ (mW_o) rfl rfl (Nat.le_of_ble_eq_true rfl) (by decide) (by decide) (by omega) (by omega) dX11_reckoned_52 ?_
        refine hB bX11_reckoned_55 _ _ _ _ _ _ _ kX11_reckoned_55 ?_
        dsimp only [bX11_reckoned_55, kx_wp, kx_step, kx_lI, kx_lL, kx_lA, kx_gl, kx_pI, kx_pL, kx_pR, kx_pA, kx_pV, kx_s1, kx_s2, kx_sl, kx_pre, kx_c2, kx_pl, kx_cmp, kx_oF, kx_eqN, kx_nil, kx_c1, kx_ft, kx_aI, kx_aL, kx_aR, kx_ln, Nat.reduceAdd, Option.toList, List.cons_append, List.nil_append, mW_o, mf_0, mf_77]
        repeat (simp only [mu_0, mW_so, show upd M 0 0 77 = M 77 from rfl, ck_q4_76, ck_q4_77, ck_q4_78, ck_q4_79, ck_q4_0, ck_q4r_76, ck_q4r_77, ck_q4r_78, ck_q4r_79, ck_q4r_71, show upd M 0 0 78 = M 78 from rfl, show upd M 0 0 79 = M 79 from rfl, hq]; try dsimp only [kx_wp, kx_step, kx_lI, kx_lL, kx_lA, kx_gl, kx_pI, kx_pL, kx_pR, kx_pA, kx_pV, kx_s1, kx_s2, kx_sl, kx_pre, kx_c2, kx_pl, kx_cmp, kx_oF, kx_eqN, kx_nil, kx_c1, kx_ft, kx_aI, kx_aL, kx_aR, kx_ln, Nat.reduceAdd, Option.toList, List.cons_append, List.nil_append, mW_o, mf_0, mf_77])
        all_goals (repeat' apply And.intro)
        all_goals ((try clear hB hC); first | exact True.intro | with_reducible rfl | with_reducible assumption | (with_reducible refine vp_in_nI ?_ ?_ <;> first | omega | decide) | exact Nat.le_of_ble_eq_true rfl | (with_reducible refine ck_nzI ?_; simp; done) | (with_reducible refine ck_nzL ?_; simp; done) | (simp only [pk_us, pk_uLs, ze10, ze25, ze41, ↓reduceIte, not_true_eq_false, not_false_eq_true]; done) | (simp only [ze10, ze25, ze41, ↓reduceIte, not_true_eq_false, not_false_eq_true]; with_reducible rfl) | skip)
      · intro zc41
        first | exact absurd rfl zc41 | exact absurd zc41 (by decide) | exact absurd (by decide) zc41 | (exfalso; exact zc41 hb) | (exfalso; simp_all; done)
    · intro zc25
      first | exact absurd rfl zc25 | exact absurd zc25 (by decide) | exact absurd (by decide) zc25 | (exfalso; exact zc41 hb) | (exfalso; simp_all; done)

set_option maxRecDepth 100000 in
set_option maxHeartbeats 4000000 in
theorem ct_X11_reckoned_b (l : Launch) (G : kx_G) {M : Nat → Int32} {A : Nat → Nat → Int32} {L : Nat → Nat → Int64} {R : kx_P} {sz : Nat} {cl c : Nat} (h21 : M 21 = nI cl) (hcl : cl ≤ 8) (hc : c < cl) {i t : Int32} (hi : ¬ (0 ≤ i ∧ i ≤ 100000))  : kx_M l G sX11_reckoned 3 0 0 [.ref 93, .int (nI c), .int (i), .int (t)] (mW M A L R) sz (some (.long 0)) (mW (upd (upd M 0 0) 0 2) A L R) sz := by
  refine kx_mk kx_tab kxLok_X11 (ini := false) [some (.ref 93), some (.int (nI c)), some (.int (i)), some (.int (t))] ⟨by decide, rfl, by decide, by decide⟩ (⟨_, rfl⟩) rfl rfl (fun g hB hC => ?_)
  refine hB bX11_reckoned_0 _ _ _ _ _ _ _ kX11_reckoned_0 ?_
  dsimp only [bX11_reckoned_0, kx_wp, kx_step, kx_lI, kx_lL, kx_lA, kx_gl, kx_pI, kx_pL, kx_pR, kx_pA, kx_pV, kx_s1, kx_s2, kx_sl, kx_pre, kx_c2, kx_pl, kx_cmp, kx_oF, kx_eqN, kx_nil, kx_c1, kx_ft, kx_aI, kx_aL, kx_aR, kx_ln, Nat.reduceAdd, Option.toList, List.cons_append, List.nil_append, mW_o, mf_0, mf_77]
  repeat (simp only [mu_0, mW_so]; try dsimp only [kx_wp, kx_step, kx_lI, kx_lL, kx_lA, kx_gl, kx_pI, kx_pL, kx_pR, kx_pA, kx_pV, kx_s1, kx_s2, kx_sl, kx_pre, kx_c2, kx_pl, kx_cmp, kx_oF, kx_eqN, kx_nil, kx_c1, kx_ft, kx_aI, kx_aL, kx_aR, kx_ln, Nat.reduceAdd, Option.toList, List.cons_append, List.nil_append, mW_o, mf_0, mf_77])
  repeat' apply And.intro
  all_goals try (first | with_reducible assumption | (with_reducible refine ck_nzI ?_; simp; done) | (with_reducible refine ck_nzL ?_; simp; done) | (with_reducible refine vp_in_nI ?_ ?_ <;> first | omega | decide) | (with_reducible refine Nat.le_of_ble_eq_true ?_; rfl) | omega)
  refine hC.1 358 _ _ _ _ _ _ _ 11 _ _ _ _ _ _ _ _ _ _ _ _ lX11_358 (ct_X11_isClock_t l G (M := upd M 0 0) h21 hcl hc rfl) ⟨by decide, rfl⟩ (mW_o) rfl rfl (Nat.le_of_ble_eq_true rfl) (by decide) (by decide) (by omega) (by omega) dX11_reckoned_7 ?_
  refine hB bX11_reckoned_10 _ _ _ _ _ _ _ kX11_reckoned_10 ?_
  dsimp only [bX11_reckoned_10, kx_wp, kx_step, kx_lI, kx_lL, kx_lA, kx_gl, kx_pI, kx_pL, kx_pR, kx_pA, kx_pV, kx_s1, kx_s2, kx_sl, kx_pre, kx_c2, kx_pl, kx_cmp, kx_oF, kx_eqN, kx_nil, kx_c1, kx_ft, kx_aI, kx_aL, kx_aR, kx_ln, Nat.reduceAdd, Option.toList, List.cons_append, List.nil_append, mW_o, mf_0, mf_77]
  repeat (simp only [mu_0, mW_so]; try dsimp only [kx_wp, kx_step, kx_lI, kx_lL, kx_lA, kx_gl, kx_pI, kx_pL, kx_pR, kx_pA, kx_pV, kx_s1, kx_s2, kx_sl, kx_pre, kx_c2, kx_pl, kx_cmp, kx_oF, kx_eqN, kx_nil, kx_c1, kx_ft, kx_aI, kx_aL, kx_aR, kx_ln, Nat.reduceAdd, Option.toList, List.cons_append, List.nil_append, mW_o, mf_0, mf_77])
  repeat' apply And.intro
  all_goals try (first | with_reducible assumption | (with_reducible refine ck_nzI ?_; simp; done) | (with_reducible refine ck_nzL ?_; simp; done) | (with_reducible refine vp_in_nI ?_ ?_ <;> first | omega | decide) | (with_reducible refine Nat.le_of_ble_eq_true ?_; rfl) | omega)
  · intro zc10
    first | exact absurd rfl zc10 | exact absurd zc10 (by decide) | exact absurd (by decide) zc10 | (exfalso; ((try clear hB hC); simp only [ck_lt, ck_le, ck_eq, not_true_eq_false, not_false_eq_true, Int32.reduceToInt, Int32.reduceAdd, Int32.reduceSub, Int32.reduceMul] at * <;> omega)) | (exfalso; simp_all; done)
  · intro zc10
    with_reducible first | have ze10 := Int32.not_lt.mpr zc10 | have ze10 := Int32.not_le.mpr zc10 | have ze10 := Int32.not_le.mp zc10 | have ze10 := Int32.not_lt.mp zc10 | have ze10 := Int64.not_lt.mpr zc10 | have ze10 := Int64.not_le.mpr zc10 | have ze10 := Int64.not_le.mp zc10 | have ze10 := Int64.not_lt.mp zc10 | have ze10 := Decidable.not_not.mp zc10 | have ze10 := zc10
    refine hB bX11_reckoned_13 _ _ _ _ _ _ _ kX11_reckoned_13 ?_
    dsimp only [bX11_reckoned_13, kx_wp, kx_step, kx_lI, kx_lL, kx_lA, kx_gl, kx_pI, kx_pL, kx_pR, kx_pA, kx_pV, kx_s1, kx_s2, kx_sl, kx_pre, kx_c2, kx_pl, kx_cmp, kx_oF, kx_eqN, kx_nil, kx_c1, kx_ft, kx_aI, kx_aL, kx_aR, kx_ln, Nat.reduceAdd, Option.toList, List.cons_append, List.nil_append, mW_o, mf_0, mf_77]
    repeat (simp only [mu_0, mW_so]; try dsimp only [kx_wp, kx_step, kx_lI, kx_lL, kx_lA, kx_gl, kx_pI, kx_pL, kx_pR, kx_pA, kx_pV, kx_s1, kx_s2, kx_sl, kx_pre, kx_c2, kx_pl, kx_cmp, kx_oF, kx_eqN, kx_nil, kx_c1, kx_ft, kx_aI, kx_aL, kx_aR, kx_ln, Nat.reduceAdd, Option.toList, List.cons_append, List.nil_append, mW_o, mf_0, mf_77])
    repeat' apply And.intro
    all_goals try (first | with_reducible assumption | (with_reducible refine ck_nzI ?_; simp; done) | (with_reducible refine ck_nzL ?_; simp; done) | (with_reducible refine vp_in_nI ?_ ?_ <;> first | omega | decide) | (with_reducible refine Nat.le_of_ble_eq_true ?_; rfl) | omega)
    refine hC.2.1 167 _ _ _ _ _ _ _ _ _ _ _ _ _ _ _ _ _ lX11_167 (ct_X11_within l G) rfl rfl (Nat.le_of_ble_eq_true rfl) (by decide) (by decide) (by omega) (by omega) dX11_reckoned_18 ?_
    refine hB bX11_reckoned_21 _ _ _ _ _ _ _ kX11_reckoned_21 ?_
    dsimp only [bX11_reckoned_21, kx_wp, kx_step, kx_lI, kx_lL, kx_lA, kx_gl, kx_pI, kx_pL, kx_pR, kx_pA, kx_pV, kx_s1, kx_s2, kx_sl, kx_pre, kx_c2, kx_pl, kx_cmp, kx_oF, kx_eqN, kx_nil, kx_c1, kx_ft, kx_aI, kx_aL, kx_aR, kx_ln, Nat.reduceAdd, Option.toList, List.cons_append, List.nil_append, mW_o, mf_0, mf_77]
    repeat (simp only [mu_0, mW_so]; try dsimp only [kx_wp, kx_step, kx_lI, kx_lL, kx_lA, kx_gl, kx_pI, kx_pL, kx_pR, kx_pA, kx_pV, kx_s1, kx_s2, kx_sl, kx_pre, kx_c2, kx_pl, kx_cmp, kx_oF, kx_eqN, kx_nil, kx_c1, kx_ft, kx_aI, kx_aL, kx_aR, kx_ln, Nat.reduceAdd, Option.toList, List.cons_append, List.nil_append, mW_o, mf_0, mf_77])
    repeat' apply And.intro
    all_goals try (first | with_reducible assumption | (with_reducible refine ck_nzI ?_; simp; done) | (with_reducible refine ck_nzL ?_; simp; done) | (with_reducible refine vp_in_nI ?_ ?_ <;> first | omega | decide) | (with_reducible refine Nat.le_of_ble_eq_true ?_; rfl) | omega)
    rw [if_neg hi]
    refine hC.1 171 _ _ _ _ _ _ _ 11 _ _ _ _ _ _ _ _ _ _ _ _ lX11_171 (ct_X11_may_f l G (M := upd M 0 0) rfl (by decide)) ⟨by decide, rfl⟩ (mW_o) rfl rfl (Nat.le_of_ble_eq_true rfl) (by decide) (by decide) (by omega) (by omega) dX11_reckoned_22 ?_
    refine hB bX11_reckoned_25 _ _ _ _ _ _ _ kX11_reckoned_25 ?_
    dsimp only [bX11_reckoned_25, kx_wp, kx_step, kx_lI, kx_lL, kx_lA, kx_gl, kx_pI, kx_pL, kx_pR, kx_pA, kx_pV, kx_s1, kx_s2, kx_sl, kx_pre, kx_c2, kx_pl, kx_cmp, kx_oF, kx_eqN, kx_nil, kx_c1, kx_ft, kx_aI, kx_aL, kx_aR, kx_ln, Nat.reduceAdd, Option.toList, List.cons_append, List.nil_append, mW_o, mf_0, mf_77]
    repeat (simp only [mu_0, mW_so]; try dsimp only [kx_wp, kx_step, kx_lI, kx_lL, kx_lA, kx_gl, kx_pI, kx_pL, kx_pR, kx_pA, kx_pV, kx_s1, kx_s2, kx_sl, kx_pre, kx_c2, kx_pl, kx_cmp, kx_oF, kx_eqN, kx_nil, kx_c1, kx_ft, kx_aI, kx_aL, kx_aR, kx_ln, Nat.reduceAdd, Option.toList, List.cons_append, List.nil_append, mW_o, mf_0, mf_77])
    repeat' apply And.intro
    all_goals try (first | with_reducible assumption | (with_reducible refine ck_nzI ?_; simp; done) | (with_reducible refine ck_nzL ?_; simp; done) | (with_reducible refine vp_in_nI ?_ ?_ <;> first | omega | decide) | (with_reducible refine Nat.le_of_ble_eq_true ?_; rfl) | omega)
    · intro zc25
      first | exact absurd rfl zc25 | exact absurd zc25 (by decide) | exact absurd (by decide) zc25 | (exfalso; ((try clear hB hC); simp only [ck_lt, ck_le, ck_eq, not_true_eq_false, not_false_eq_true, Int32.reduceToInt, Int32.reduceAdd, Int32.reduceSub, Int32.reduceMul] at * <;> omega)) | (exfalso; simp_all; done)
    · intro zc25
      with_reducible first | have ze25 := Int32.not_lt.mpr zc25 | have ze25 := Int32.not_le.mpr zc25 | have ze25 := Int32.not_le.mp zc25 | have ze25 := Int32.not_lt.mp zc25 | have ze25 := Int64.not_lt.mpr zc25 | have ze25 := Int64.not_le.mpr zc25 | have ze25 := Int64.not_le.mp zc25 | have ze25 := Int64.not_lt.mp zc25 | have ze25 := Decidable.not_not.mp zc25 | have ze25 := zc25
      refine hB bX11_reckoned_28 _ _ _ _ _ _ _ kX11_reckoned_28 ?_
      dsimp only [bX11_reckoned_28, kx_wp, kx_step, kx_lI, kx_lL, kx_lA, kx_gl, kx_pI, kx_pL, kx_pR, kx_pA, kx_pV, kx_s1, kx_s2, kx_sl, kx_pre, kx_c2, kx_pl, kx_cmp, kx_oF, kx_eqN, kx_nil, kx_c1, kx_ft, kx_aI, kx_aL, kx_aR, kx_ln, Nat.reduceAdd, Option.toList, List.cons_append, List.nil_append, mW_o, mf_0, mf_77]
      repeat (simp only [mu_0, mW_so]; try dsimp only [kx_wp, kx_step, kx_lI, kx_lL, kx_lA, kx_gl, kx_pI, kx_pL, kx_pR, kx_pA, kx_pV, kx_s1, kx_s2, kx_sl, kx_pre, kx_c2, kx_pl, kx_cmp, kx_oF, kx_eqN, kx_nil, kx_c1, kx_ft, kx_aI, kx_aL, kx_aR, kx_ln, Nat.reduceAdd, Option.toList, List.cons_append, List.nil_append, mW_o, mf_0, mf_77])
      all_goals (repeat' apply And.intro)
      all_goals ((try clear hB hC); first | exact True.intro | with_reducible rfl | with_reducible assumption | (with_reducible refine vp_in_nI ?_ ?_ <;> first | omega | decide) | exact Nat.le_of_ble_eq_true rfl | (with_reducible refine ck_nzI ?_; simp; done) | (with_reducible refine ck_nzL ?_; simp; done) | (simp only [pk_us, pk_uLs, ze10, eq_true ze25, ↓reduceIte, not_true_eq_false, not_false_eq_true]; done) | (simp only [ze10, eq_true ze25, ↓reduceIte, not_true_eq_false, not_false_eq_true]; with_reducible rfl) | skip)

set_option maxRecDepth 100000 in
set_option maxHeartbeats 4000000 in
theorem ct_X11_reckoned_f (l : Launch) (G : kx_G) {M : Nat → Int32} {A : Nat → Nat → Int32} {L : Nat → Nat → Int64} {R : kx_P} {sz : Nat} {x : Int32} {i t : Int32} (hx : ¬ (0 ≤ x ∧ x ≤ M 21 - 1)) : kx_M l G sX11_reckoned 3 0 0 [.ref 93, .int (x), .int (i), .int (t)] (mW M A L R) sz (some (.long 0)) (mW (upd (upd M 0 0) 0 1) A L R) sz := by
  refine kx_mk kx_tab kxLok_X11 (ini := false) [some (.ref 93), some (.int (x)), some (.int (i)), some (.int (t))] ⟨by decide, rfl, by decide, by decide⟩ (⟨_, rfl⟩) rfl rfl (fun g hB hC => ?_)
  refine hB bX11_reckoned_0 _ _ _ _ _ _ _ kX11_reckoned_0 ?_
  dsimp only [bX11_reckoned_0, kx_wp, kx_step, kx_lI, kx_lL, kx_lA, kx_gl, kx_pI, kx_pL, kx_pR, kx_pA, kx_pV, kx_s1, kx_s2, kx_sl, kx_pre, kx_c2, kx_pl, kx_cmp, kx_oF, kx_eqN, kx_nil, kx_c1, kx_ft, kx_aI, kx_aL, kx_aR, kx_ln, Nat.reduceAdd, Option.toList, List.cons_append, List.nil_append, mW_o, mf_0, mf_77]
  repeat (simp only [mu_0, mW_so]; try dsimp only [kx_wp, kx_step, kx_lI, kx_lL, kx_lA, kx_gl, kx_pI, kx_pL, kx_pR, kx_pA, kx_pV, kx_s1, kx_s2, kx_sl, kx_pre, kx_c2, kx_pl, kx_cmp, kx_oF, kx_eqN, kx_nil, kx_c1, kx_ft, kx_aI, kx_aL, kx_aR, kx_ln, Nat.reduceAdd, Option.toList, List.cons_append, List.nil_append, mW_o, mf_0, mf_77])
  repeat' apply And.intro
  all_goals try (first | with_reducible assumption | (with_reducible refine ck_nzI ?_; simp; done) | (with_reducible refine ck_nzL ?_; simp; done) | (with_reducible refine vp_in_nI ?_ ?_ <;> first | omega | decide) | (with_reducible refine Nat.le_of_ble_eq_true ?_; rfl) | omega)
  have hx2 : ¬ (0 ≤ x ∧ x ≤ upd M 0 0 21 - 1) := by rw [show upd M 0 0 21 = M 21 from rfl]; exact hx
  refine hC.1 358 _ _ _ _ _ _ _ 11 _ _ _ _ _ _ _ _ _ _ _ _ lX11_358 (ct_X11_isClock_f l G (M := upd M 0 0) hx2 rfl) ⟨by decide, rfl⟩ (mW_o) rfl rfl (Nat.le_of_ble_eq_true rfl) (by decide) (by decide) (by omega) (by omega) dX11_reckoned_7 ?_
  refine hB bX11_reckoned_10 _ _ _ _ _ _ _ kX11_reckoned_10 ?_
  dsimp only [bX11_reckoned_10, kx_wp, kx_step, kx_lI, kx_lL, kx_lA, kx_gl, kx_pI, kx_pL, kx_pR, kx_pA, kx_pV, kx_s1, kx_s2, kx_sl, kx_pre, kx_c2, kx_pl, kx_cmp, kx_oF, kx_eqN, kx_nil, kx_c1, kx_ft, kx_aI, kx_aL, kx_aR, kx_ln, Nat.reduceAdd, Option.toList, List.cons_append, List.nil_append, mW_o, mf_0, mf_77]
  repeat (simp only [mu_0, mW_so]; try dsimp only [kx_wp, kx_step, kx_lI, kx_lL, kx_lA, kx_gl, kx_pI, kx_pL, kx_pR, kx_pA, kx_pV, kx_s1, kx_s2, kx_sl, kx_pre, kx_c2, kx_pl, kx_cmp, kx_oF, kx_eqN, kx_nil, kx_c1, kx_ft, kx_aI, kx_aL, kx_aR, kx_ln, Nat.reduceAdd, Option.toList, List.cons_append, List.nil_append, mW_o, mf_0, mf_77])
  repeat' apply And.intro
  all_goals try (first | with_reducible assumption | (with_reducible refine ck_nzI ?_; simp; done) | (with_reducible refine ck_nzL ?_; simp; done) | (with_reducible refine vp_in_nI ?_ ?_ <;> first | omega | decide) | (with_reducible refine Nat.le_of_ble_eq_true ?_; rfl) | omega)
  · intro zc10
    with_reducible first | have ze10 := Int32.not_lt.mpr zc10 | have ze10 := Int32.not_le.mpr zc10 | have ze10 := Int32.not_le.mp zc10 | have ze10 := Int32.not_lt.mp zc10 | have ze10 := Int64.not_lt.mpr zc10 | have ze10 := Int64.not_le.mpr zc10 | have ze10 := Int64.not_le.mp zc10 | have ze10 := Int64.not_lt.mp zc10 | have ze10 := Decidable.not_not.mp zc10 | have ze10 := zc10
    refine hB bX11_reckoned_28 _ _ _ _ _ _ _ kX11_reckoned_28 ?_
    dsimp only [bX11_reckoned_28, kx_wp, kx_step, kx_lI, kx_lL, kx_lA, kx_gl, kx_pI, kx_pL, kx_pR, kx_pA, kx_pV, kx_s1, kx_s2, kx_sl, kx_pre, kx_c2, kx_pl, kx_cmp, kx_oF, kx_eqN, kx_nil, kx_c1, kx_ft, kx_aI, kx_aL, kx_aR, kx_ln, Nat.reduceAdd, Option.toList, List.cons_append, List.nil_append, mW_o, mf_0, mf_77]
    repeat (simp only [mu_0, mW_so]; try dsimp only [kx_wp, kx_step, kx_lI, kx_lL, kx_lA, kx_gl, kx_pI, kx_pL, kx_pR, kx_pA, kx_pV, kx_s1, kx_s2, kx_sl, kx_pre, kx_c2, kx_pl, kx_cmp, kx_oF, kx_eqN, kx_nil, kx_c1, kx_ft, kx_aI, kx_aL, kx_aR, kx_ln, Nat.reduceAdd, Option.toList, List.cons_append, List.nil_append, mW_o, mf_0, mf_77])
    all_goals (repeat' apply And.intro)
    all_goals ((try clear hB hC); first | exact True.intro | with_reducible rfl | with_reducible assumption | (with_reducible refine vp_in_nI ?_ ?_ <;> first | omega | decide) | exact Nat.le_of_ble_eq_true rfl | (with_reducible refine ck_nzI ?_; simp; done) | (with_reducible refine ck_nzL ?_; simp; done) | (simp only [pk_us, pk_uLs, eq_true ze10, ↓reduceIte, not_true_eq_false, not_false_eq_true]; done) | (simp only [eq_true ze10, ↓reduceIte, not_true_eq_false, not_false_eq_true]; with_reducible rfl) | skip)
  · intro zc10
    first | exact absurd rfl zc10 | exact absurd zc10 (by decide) | exact absurd (by decide) zc10 | (exfalso; ((try clear hB hC); simp only [ck_lt, ck_le, ck_eq, not_true_eq_false, not_false_eq_true, Int32.reduceToInt, Int32.reduceAdd, Int32.reduceSub, Int32.reduceMul] at * <;> omega)) | (exfalso; simp_all; done)

def bX11_speed_0 : List kx_O := [(.aload_n 0, 0, 0, 0, .null), (.iconst 0, 0, 0, 0, .int 0), (.putfield 1, 11, 0, 0, .null), (.aload_n 0, 0, 0, 0, .null), (.iload_n 1, 1, 0, 0, .null)]
theorem kX11_speed_0 : kx_oks kxL_X11 false cX11_speed 0 bX11_speed_0 = true := by decide +kernel
def bX11_speed_10 : List kx_O := [(.ifCond .ne 5, 15, 0, 0, .null)]
theorem kX11_speed_10 : kx_oks kxL_X11 false cX11_speed 10 bX11_speed_10 = true := by decide +kernel
def bX11_speed_13 : List kx_O := [(.lconst 0, 0, 0, 0, .long 0), (.lreturn, 0, 0, 0, .null)]
theorem kX11_speed_13 : kx_oks kxL_X11 false cX11_speed 13 bX11_speed_13 = true := by decide +kernel
def bX11_speed_15 : List kx_O := [(.aload_n 0, 0, 0, 0, .null), (.iload_n 1, 1, 0, 0, .null), (.iload_n 2, 2, 0, 0, .null)]
theorem kX11_speed_15 : kx_oks kxL_X11 false cX11_speed 15 bX11_speed_15 = true := by decide +kernel
def bX11_speed_21 : List kx_O := [(.aload_n 0, 0, 0, 0, .null), (.getfield 535, 11, 76, 0, .null), (.iconst (-1), 0, 0, 0, .int (-1)), (.if_icmp .ne 9, 35, 0, 0, .null)]
theorem kX11_speed_21 : kx_oks kxL_X11 false cX11_speed 21 bX11_speed_21 = true := by decide +kernel
def bX11_speed_29 : List kx_O := [(.ldc2_w 554, 0, 0, 0, .long (-2000000000)), (.goto 7, 39, 0, 0, .null)]
theorem kX11_speed_29 : kx_oks kxL_X11 false cX11_speed 29 bX11_speed_29 = true := by decide +kernel
def bX11_speed_35 : List kx_O := [(.aload_n 0, 0, 0, 0, .null)]
theorem kX11_speed_35 : kx_oks kxL_X11 false cX11_speed 35 bX11_speed_35 = true := by decide +kernel
def bX11_speed_39 : List kx_O := [(.lreturn, 0, 0, 0, .null)]
theorem kX11_speed_39 : kx_oks kxL_X11 false cX11_speed 39 bX11_speed_39 = true := by decide +kernel
theorem dX11_speed_7 : decode cX11_speed 7 = .ok (.invokevirtual 358, 3) := by decide +kernel
theorem dX11_speed_18 : decode cX11_speed 18 = .ok (.invokevirtual 551, 3) := by decide +kernel
theorem dX11_speed_36 : decode cX11_speed 36 = .ok (.invokevirtual 560, 3) := by decide +kernel
set_option maxRecDepth 100000 in
set_option maxHeartbeats 4000000 in
theorem ct_X11_speed_v (l : Launch) (G : kx_G) {M : Nat → Int32} {A : Nat → Nat → Int32} {L : Nat → Nat → Int64} {R : kx_P} {sz : Nat} {cl c : Nat} (h21 : M 21 = nI cl) (hcl : cl ≤ 8) (hc : c < cl) {t : Int32} {n : Nat} (h71 : M 71 = nI n) (hn : n ≤ 100) {a b x y : Int32} (hq : ck_ft A (nI c) t (M 78) (M 79) n = (a, b, x, y)) (ha : a = -1)  : kx_M l G sX11_speed 3 0 0 [.ref 93, .int (nI c), .int (t)] (mW M A L R) sz (some (.long (-2000000000))) (mW (ck_q4 (upd M 0 0) (a, b, x, y)) A L R) sz := by
  have h71b : upd M 0 0 71 = nI n := by rw [show upd M 0 0 71 = M 71 from rfl]; exact h71
  refine kx_mk kx_tab kxLok_X11 (ini := false) [some (.ref 93), some (.int (nI c)), some (.int (t))] ⟨by decide, rfl, by decide, by decide⟩ (⟨_, rfl⟩) rfl rfl (fun g hB hC => ?_)
  refine hB bX11_speed_0 _ _ _ _ _ _ _ kX11_speed_0 ?_
  dsimp only [bX11_speed_0, kx_wp, kx_step, kx_lI, kx_lL, kx_lA, kx_gl, kx_pI, kx_pL, kx_pR, kx_pA, kx_pV, kx_s1, kx_s2, kx_sl, kx_pre, kx_c2, kx_pl, kx_cmp, kx_oF, kx_eqN, kx_nil, kx_c1, kx_ft, kx_aI, kx_aL, kx_aR, kx_ln, Nat.reduceAdd, Option.toList, List.cons_append, List.nil_append, mW_o, mf_0, mf_76]
  repeat (simp only [mu_0, mW_so, show upd M 0 0 76 = M 76 from rfl, ck_q4_76, ck_q4_77, ck_q4_78, ck_q4_79, ck_q4_0, ck_q4r_76, ck_q4r_77, ck_q4r_78, ck_q4r_79, ck_q4r_71, show upd M 0 0 78 = M 78 from rfl, show upd M 0 0 79 = M 79 from rfl, hq]; try dsimp only [kx_wp, kx_step, kx_lI, kx_lL, kx_lA, kx_gl, kx_pI, kx_pL, kx_pR, kx_pA, kx_pV, kx_s1, kx_s2, kx_sl, kx_pre, kx_c2, kx_pl, kx_cmp, kx_oF, kx_eqN, kx_nil, kx_c1, kx_ft, kx_aI, kx_aL, kx_aR, kx_ln, Nat.reduceAdd, Option.toList, List.cons_append, List.nil_append, mW_o, mf_0, mf_76])
  repeat' apply And.intro
  all_goals try (first | with_reducible assumption | (with_reducible refine ck_nzI ?_; simp; done) | (with_reducible refine ck_nzL ?_; simp; done) | (with_reducible refine vp_in_nI ?_ ?_ <;> first | omega | decide) | (with_reducible refine Nat.le_of_ble_eq_true ?_; rfl) | omega)
  refine hC.1 358 _ _ _ _ _ _ _ 11 _ _ _ _ _ _ _ _ _ _ _ _ lX11_358 (ct_X11_isClock_t l G (M := upd M 0 0) h21 hcl hc rfl) ⟨by decide, rfl⟩ (mW_o) rfl rfl (Nat.le_of_ble_eq_true rfl) (by decide) (by decide) (by omega) (by omega) dX11_speed_7 ?_
  refine hB bX11_speed_10 _ _ _ _ _ _ _ kX11_speed_10 ?_
  dsimp only [bX11_speed_10, kx_wp, kx_step, kx_lI, kx_lL, kx_lA, kx_gl, kx_pI, kx_pL, kx_pR, kx_pA, kx_pV, kx_s1, kx_s2, kx_sl, kx_pre, kx_c2, kx_pl, kx_cmp, kx_oF, kx_eqN, kx_nil, kx_c1, kx_ft, kx_aI, kx_aL, kx_aR, kx_ln, Nat.reduceAdd, Option.toList, List.cons_append, List.nil_append, mW_o, mf_0, mf_76]
  repeat (simp only [mu_0, mW_so, show upd M 0 0 76 = M 76 from rfl, ck_q4_76, ck_q4_77, ck_q4_78, ck_q4_79, ck_q4_0, ck_q4r_76, ck_q4r_77, ck_q4r_78, ck_q4r_79, ck_q4r_71, show upd M 0 0 78 = M 78 from rfl, show upd M 0 0 79 = M 79 from rfl, hq]; try dsimp only [kx_wp, kx_step, kx_lI, kx_lL, kx_lA, kx_gl, kx_pI, kx_pL, kx_pR, kx_pA, kx_pV, kx_s1, kx_s2, kx_sl, kx_pre, kx_c2, kx_pl, kx_cmp, kx_oF, kx_eqN, kx_nil, kx_c1, kx_ft, kx_aI, kx_aL, kx_aR, kx_ln, Nat.reduceAdd, Option.toList, List.cons_append, List.nil_append, mW_o, mf_0, mf_76])
  repeat' apply And.intro
  all_goals try (first | with_reducible assumption | (with_reducible refine ck_nzI ?_; simp; done) | (with_reducible refine ck_nzL ?_; simp; done) | (with_reducible refine vp_in_nI ?_ ?_ <;> first | omega | decide) | (with_reducible refine Nat.le_of_ble_eq_true ?_; rfl) | omega)
  · intro zc10
    with_reducible first | have ze10 := Int32.not_lt.mpr zc10 | have ze10 := Int32.not_le.mpr zc10 | have ze10 := Int32.not_le.mp zc10 | have ze10 := Int32.not_lt.mp zc10 | have ze10 := Int64.not_lt.mpr zc10 | have ze10 := Int64.not_le.mpr zc10 | have ze10 := Int64.not_le.mp zc10 | have ze10 := Int64.not_lt.mp zc10 | have ze10 := Decidable.not_not.mp zc10 | have ze10 := zc10
    refine hB bX11_speed_15 _ _ _ _ _ _ _ kX11_speed_15 ?_
    dsimp only [bX11_speed_15, kx_wp, kx_step, kx_lI, kx_lL, kx_lA, kx_gl, kx_pI, kx_pL, kx_pR, kx_pA, kx_pV, kx_s1, kx_s2, kx_sl, kx_pre, kx_c2, kx_pl, kx_cmp, kx_oF, kx_eqN, kx_nil, kx_c1, kx_ft, kx_aI, kx_aL, kx_aR, kx_ln, Nat.reduceAdd, Option.toList, List.cons_append, List.nil_append, mW_o, mf_0, mf_76]
    repeat (simp only [mu_0, mW_so, show upd M 0 0 76 = M 76 from rfl, ck_q4_76, ck_q4_77, ck_q4_78, ck_q4_79, ck_q4_0, ck_q4r_76, ck_q4r_77, ck_q4r_78, ck_q4r_79, ck_q4r_71, show upd M 0 0 78 = M 78 from rfl, show upd M 0 0 79 = M 79 from rfl, hq]; try dsimp only [kx_wp, kx_step, kx_lI, kx_lL, kx_lA, kx_gl, kx_pI, kx_pL, kx_pR, kx_pA, kx_pV, kx_s1, kx_s2, kx_sl, kx_pre, kx_c2, kx_pl, kx_cmp, kx_oF, kx_eqN, kx_nil, kx_c1, kx_ft, kx_aI, kx_aL, kx_aR, kx_ln, Nat.reduceAdd, Option.toList, List.cons_append, List.nil_append, mW_o, mf_0, mf_76])
    repeat' apply And.intro
    all_goals try (first | with_reducible assumption | (with_reducible refine ck_nzI ?_; simp; done) | (with_reducible refine ck_nzL ?_; simp; done) | (with_reducible refine vp_in_nI ?_ ?_ <;> first | omega | decide) | (with_reducible refine Nat.le_of_ble_eq_true ?_; rfl) | omega)
    refine hC.1 551 _ _ _ _ _ _ _ 11 _ _ _ _ _ _ _ _ _ _ _ _ lX11_551 (ct_X11_findTwo l G (M := upd M 0 0) (n := n) h71b hn) ⟨by decide, rfl⟩ (mW_o) rfl rfl (Nat.le_of_ble_eq_true rfl) (by decide) (by decide) (by omega) (by omega) dX11_speed_18 ?_
    refine hB bX11_speed_21 _ _ _ _ _ _ _ kX11_speed_21 ?_
    dsimp only [bX11_speed_21, kx_wp, kx_step, kx_lI, kx_lL, kx_lA, kx_gl, kx_pI, kx_pL, kx_pR, kx_pA, kx_pV, kx_s1, kx_s2, kx_sl, kx_pre, kx_c2, kx_pl, kx_cmp, kx_oF, kx_eqN, kx_nil, kx_c1, kx_ft, kx_aI, kx_aL, kx_aR, kx_ln, Nat.reduceAdd, Option.toList, List.cons_append, List.nil_append, mW_o, mf_0, mf_76]
    repeat (simp only [mu_0, mW_so, show upd M 0 0 76 = M 76 from rfl, ck_q4_76, ck_q4_77, ck_q4_78, ck_q4_79, ck_q4_0, ck_q4r_76, ck_q4r_77, ck_q4r_78, ck_q4r_79, ck_q4r_71, show upd M 0 0 78 = M 78 from rfl, show upd M 0 0 79 = M 79 from rfl, hq]; try dsimp only [kx_wp, kx_step, kx_lI, kx_lL, kx_lA, kx_gl, kx_pI, kx_pL, kx_pR, kx_pA, kx_pV, kx_s1, kx_s2, kx_sl, kx_pre, kx_c2, kx_pl, kx_cmp, kx_oF, kx_eqN, kx_nil, kx_c1, kx_ft, kx_aI, kx_aL, kx_aR, kx_ln, Nat.reduceAdd, Option.toList, List.cons_append, List.nil_append, mW_o, mf_0, mf_76])
    repeat' apply And.intro
    all_goals try (first | with_reducible assumption | (with_reducible refine ck_nzI ?_; simp; done) | (with_reducible refine ck_nzL ?_; simp; done) | (with_reducible refine vp_in_nI ?_ ?_ <;> first | omega | decide) | (with_reducible refine Nat.le_of_ble_eq_true ?_; rfl) | omega)
    · intro zc26
      first | exact absurd rfl zc26 | exact absurd zc26 (by decide) | exact absurd (by decide) zc26 | (exfalso; exact zc26 ha) | (exfalso; simp_all; done)
    · intro zc26
      with_reducible first | have ze26 := Int32.not_lt.mpr zc26 | have ze26 := Int32.not_le.mpr zc26 | have ze26 := Int32.not_le.mp zc26 | have ze26 := Int32.not_lt.mp zc26 | have ze26 := Int64.not_lt.mpr zc26 | have ze26 := Int64.not_le.mpr zc26 | have ze26 := Int64.not_le.mp zc26 | have ze26 := Int64.not_lt.mp zc26 | have ze26 := Decidable.not_not.mp zc26 | have ze26 := zc26
      refine hB bX11_speed_29 _ _ _ _ _ _ _ kX11_speed_29 ?_
      dsimp only [bX11_speed_29, kx_wp, kx_step, kx_lI, kx_lL, kx_lA, kx_gl, kx_pI, kx_pL, kx_pR, kx_pA, kx_pV, kx_s1, kx_s2, kx_sl, kx_pre, kx_c2, kx_pl, kx_cmp, kx_oF, kx_eqN, kx_nil, kx_c1, kx_ft, kx_aI, kx_aL, kx_aR, kx_ln, Nat.reduceAdd, Option.toList, List.cons_append, List.nil_append, mW_o, mf_0, mf_76]
      repeat (simp only [mu_0, mW_so, show upd M 0 0 76 = M 76 from rfl, ck_q4_76, ck_q4_77, ck_q4_78, ck_q4_79, ck_q4_0, ck_q4r_76, ck_q4r_77, ck_q4r_78, ck_q4r_79, ck_q4r_71, show upd M 0 0 78 = M 78 from rfl, show upd M 0 0 79 = M 79 from rfl, hq]; try dsimp only [kx_wp, kx_step, kx_lI, kx_lL, kx_lA, kx_gl, kx_pI, kx_pL, kx_pR, kx_pA, kx_pV, kx_s1, kx_s2, kx_sl, kx_pre, kx_c2, kx_pl, kx_cmp, kx_oF, kx_eqN, kx_nil, kx_c1, kx_ft, kx_aI, kx_aL, kx_aR, kx_ln, Nat.reduceAdd, Option.toList, List.cons_append, List.nil_append, mW_o, mf_0, mf_76])
      repeat' apply And.intro
      all_goals try (first | with_reducible assumption | (with_reducible refine ck_nzI ?_; simp; done) | (with_reducible refine ck_nzL ?_; simp; done) | (with_reducible refine vp_in_nI ?_ ?_ <;> first | omega | decide) | (with_reducible refine Nat.le_of_ble_eq_true ?_; rfl) | omega)
      refine hB bX11_speed_39 _ _ _ _ _ _ _ kX11_speed_39 ?_
      dsimp only [bX11_speed_39, kx_wp, kx_step, kx_lI, kx_lL, kx_lA, kx_gl, kx_pI, kx_pL, kx_pR, kx_pA, kx_pV, kx_s1, kx_s2, kx_sl, kx_pre, kx_c2, kx_pl, kx_cmp, kx_oF, kx_eqN, kx_nil, kx_c1, kx_ft, kx_aI, kx_aL, kx_aR, kx_ln, Nat.reduceAdd, Option.toList, List.cons_append, List.nil_append, mW_o, mf_0, mf_76]
      repeat (simp only [mu_0, mW_so, show upd M 0 0 76 = M 76 from rfl, ck_q4_76, ck_q4_77, ck_q4_78, ck_q4_79, ck_q4_0, ck_q4r_76, ck_q4r_77, ck_q4r_78, ck_q4r_79, ck_q4r_71, show upd M 0 0 78 = M 78 from rfl, show upd M 0 0 79 = M 79 from rfl, hq]; try dsimp only [kx_wp, kx_step, kx_lI, kx_lL, kx_lA, kx_gl, kx_pI, kx_pL, kx_pR, kx_pA, kx_pV, kx_s1, kx_s2, kx_sl, kx_pre, kx_c2, kx_pl, kx_cmp, kx_oF, kx_eqN, kx_nil, kx_c1, kx_ft, kx_aI, kx_aL, kx_aR, kx_ln, Nat.reduceAdd, Option.toList, List.cons_append, List.nil_append, mW_o, mf_0, mf_76])
      all_goals (repeat' apply And.intro)
      all_goals ((try clear hB hC); first | exact True.intro | with_reducible rfl | with_reducible assumption | (with_reducible refine vp_in_nI ?_ ?_ <;> first | omega | decide) | exact Nat.le_of_ble_eq_true rfl | (with_reducible refine ck_nzI ?_; simp; done) | (with_reducible refine ck_nzL ?_; simp; done) | (simp only [pk_us, pk_uLs, ze10, eq_true ze26, ↓reduceIte, not_true_eq_false, not_false_eq_true]; done) | (simp only [ze10, eq_true ze26, ↓reduceIte, not_true_eq_false, not_false_eq_true]; with_reducible rfl) | skip)
  · intro zc10
    first | exact absurd rfl zc10 | exact absurd zc10 (by decide) | exact absurd (by decide) zc10 | (exfalso; exact zc26 ha) | (exfalso; simp_all; done)

set_option maxRecDepth 100000 in
set_option maxHeartbeats 4000000 in
theorem ct_X11_speed_t (l : Launch) (G : kx_G) {M : Nat → Int32} {A : Nat → Nat → Int32} {L : Nat → Nat → Int64} {R : kx_P} {sz : Nat} {cl c : Nat} (h21 : M 21 = nI cl) (hcl : cl ≤ 8) (hc : c < cl) {t : Int32} {n : Nat} (h71 : M 71 = nI n) (hn : n ≤ 100) {a b x y : Int32} (hq : ck_ft A (nI c) t (M 78) (M 79) n = (a, b, x, y)) (ha : ¬ a = -1) (hz : ¬ 60 * (b - a).toInt64 = 0)  : kx_M l G sX11_speed 3 0 0 [.ref 93, .int (nI c), .int (t)] (mW M A L R) sz (some (.long (ck_sp (a, b, x, y)))) (mW (ck_q4 (upd M 0 0) (a, b, x, y)) A L R) sz := by
  have h71b : upd M 0 0 71 = nI n := by rw [show upd M 0 0 71 = M 71 from rfl]; exact h71
  refine kx_mk kx_tab kxLok_X11 (ini := false) [some (.ref 93), some (.int (nI c)), some (.int (t))] ⟨by decide, rfl, by decide, by decide⟩ (⟨_, rfl⟩) rfl rfl (fun g hB hC => ?_)
  refine hB bX11_speed_0 _ _ _ _ _ _ _ kX11_speed_0 ?_
  dsimp only [bX11_speed_0, kx_wp, kx_step, kx_lI, kx_lL, kx_lA, kx_gl, kx_pI, kx_pL, kx_pR, kx_pA, kx_pV, kx_s1, kx_s2, kx_sl, kx_pre, kx_c2, kx_pl, kx_cmp, kx_oF, kx_eqN, kx_nil, kx_c1, kx_ft, kx_aI, kx_aL, kx_aR, kx_ln, Nat.reduceAdd, Option.toList, List.cons_append, List.nil_append, mW_o, mf_0, mf_76]
  repeat (simp only [mu_0, mW_so, show upd M 0 0 76 = M 76 from rfl, ck_q4_76, ck_q4_77, ck_q4_78, ck_q4_79, ck_q4_0, ck_q4r_76, ck_q4r_77, ck_q4r_78, ck_q4r_79, ck_q4r_71, show upd M 0 0 78 = M 78 from rfl, show upd M 0 0 79 = M 79 from rfl, hq]; try dsimp only [kx_wp, kx_step, kx_lI, kx_lL, kx_lA, kx_gl, kx_pI, kx_pL, kx_pR, kx_pA, kx_pV, kx_s1, kx_s2, kx_sl, kx_pre, kx_c2, kx_pl, kx_cmp, kx_oF, kx_eqN, kx_nil, kx_c1, kx_ft, kx_aI, kx_aL, kx_aR, kx_ln, Nat.reduceAdd, Option.toList, List.cons_append, List.nil_append, mW_o, mf_0, mf_76])
  repeat' apply And.intro
  all_goals try (first | with_reducible assumption | (with_reducible refine ck_nzI ?_; simp; done) | (with_reducible refine ck_nzL ?_; simp; done) | (with_reducible refine vp_in_nI ?_ ?_ <;> first | omega | decide) | (with_reducible refine Nat.le_of_ble_eq_true ?_; rfl) | omega)
  refine hC.1 358 _ _ _ _ _ _ _ 11 _ _ _ _ _ _ _ _ _ _ _ _ lX11_358 (ct_X11_isClock_t l G (M := upd M 0 0) h21 hcl hc rfl) ⟨by decide, rfl⟩ (mW_o) rfl rfl (Nat.le_of_ble_eq_true rfl) (by decide) (by decide) (by omega) (by omega) dX11_speed_7 ?_
  refine hB bX11_speed_10 _ _ _ _ _ _ _ kX11_speed_10 ?_
  dsimp only [bX11_speed_10, kx_wp, kx_step, kx_lI, kx_lL, kx_lA, kx_gl, kx_pI, kx_pL, kx_pR, kx_pA, kx_pV, kx_s1, kx_s2, kx_sl, kx_pre, kx_c2, kx_pl, kx_cmp, kx_oF, kx_eqN, kx_nil, kx_c1, kx_ft, kx_aI, kx_aL, kx_aR, kx_ln, Nat.reduceAdd, Option.toList, List.cons_append, List.nil_append, mW_o, mf_0, mf_76]
  repeat (simp only [mu_0, mW_so, show upd M 0 0 76 = M 76 from rfl, ck_q4_76, ck_q4_77, ck_q4_78, ck_q4_79, ck_q4_0, ck_q4r_76, ck_q4r_77, ck_q4r_78, ck_q4r_79, ck_q4r_71, show upd M 0 0 78 = M 78 from rfl, show upd M 0 0 79 = M 79 from rfl, hq]; try dsimp only [kx_wp, kx_step, kx_lI, kx_lL, kx_lA, kx_gl, kx_pI, kx_pL, kx_pR, kx_pA, kx_pV, kx_s1, kx_s2, kx_sl, kx_pre, kx_c2, kx_pl, kx_cmp, kx_oF, kx_eqN, kx_nil, kx_c1, kx_ft, kx_aI, kx_aL, kx_aR, kx_ln, Nat.reduceAdd, Option.toList, List.cons_append, List.nil_append, mW_o, mf_0, mf_76])
  repeat' apply And.intro
  all_goals try (first | with_reducible assumption | (with_reducible refine ck_nzI ?_; simp; done) | (with_reducible refine ck_nzL ?_; simp; done) | (with_reducible refine vp_in_nI ?_ ?_ <;> first | omega | decide) | (with_reducible refine Nat.le_of_ble_eq_true ?_; rfl) | omega)
  · intro zc10
    with_reducible first | have ze10 := Int32.not_lt.mpr zc10 | have ze10 := Int32.not_le.mpr zc10 | have ze10 := Int32.not_le.mp zc10 | have ze10 := Int32.not_lt.mp zc10 | have ze10 := Int64.not_lt.mpr zc10 | have ze10 := Int64.not_le.mpr zc10 | have ze10 := Int64.not_le.mp zc10 | have ze10 := Int64.not_lt.mp zc10 | have ze10 := Decidable.not_not.mp zc10 | have ze10 := zc10
    refine hB bX11_speed_15 _ _ _ _ _ _ _ kX11_speed_15 ?_
    dsimp only [bX11_speed_15, kx_wp, kx_step, kx_lI, kx_lL, kx_lA, kx_gl, kx_pI, kx_pL, kx_pR, kx_pA, kx_pV, kx_s1, kx_s2, kx_sl, kx_pre, kx_c2, kx_pl, kx_cmp, kx_oF, kx_eqN, kx_nil, kx_c1, kx_ft, kx_aI, kx_aL, kx_aR, kx_ln, Nat.reduceAdd, Option.toList, List.cons_append, List.nil_append, mW_o, mf_0, mf_76]
    repeat (simp only [mu_0, mW_so, show upd M 0 0 76 = M 76 from rfl, ck_q4_76, ck_q4_77, ck_q4_78, ck_q4_79, ck_q4_0, ck_q4r_76, ck_q4r_77, ck_q4r_78, ck_q4r_79, ck_q4r_71, show upd M 0 0 78 = M 78 from rfl, show upd M 0 0 79 = M 79 from rfl, hq]; try dsimp only [kx_wp, kx_step, kx_lI, kx_lL, kx_lA, kx_gl, kx_pI, kx_pL, kx_pR, kx_pA, kx_pV, kx_s1, kx_s2, kx_sl, kx_pre, kx_c2, kx_pl, kx_cmp, kx_oF, kx_eqN, kx_nil, kx_c1, kx_ft, kx_aI, kx_aL, kx_aR, kx_ln, Nat.reduceAdd, Option.toList, List.cons_append, List.nil_append, mW_o, mf_0, mf_76])
    repeat' apply And.intro
    all_goals try (first | with_reducible assumption | (with_reducible refine ck_nzI ?_; simp; done) | (with_reducible refine ck_nzL ?_; simp; done) | (with_reducible refine vp_in_nI ?_ ?_ <;> first | omega | decide) | (with_reducible refine Nat.le_of_ble_eq_true ?_; rfl) | omega)
    refine hC.1 551 _ _ _ _ _ _ _ 11 _ _ _ _ _ _ _ _ _ _ _ _ lX11_551 (ct_X11_findTwo l G (M := upd M 0 0) (n := n) h71b hn) ⟨by decide, rfl⟩ (mW_o) rfl rfl (Nat.le_of_ble_eq_true rfl) (by decide) (by decide) (by omega) (by omega) dX11_speed_18 ?_
    refine hB bX11_speed_21 _ _ _ _ _ _ _ kX11_speed_21 ?_
    dsimp only [bX11_speed_21, kx_wp, kx_step, kx_lI, kx_lL, kx_lA, kx_gl, kx_pI, kx_pL, kx_pR, kx_pA, kx_pV, kx_s1, kx_s2, kx_sl, kx_pre, kx_c2, kx_pl, kx_cmp, kx_oF, kx_eqN, kx_nil, kx_c1, kx_ft, kx_aI, kx_aL, kx_aR, kx_ln, Nat.reduceAdd, Option.toList, List.cons_append, List.nil_append, mW_o, mf_0, mf_76]
    repeat (simp only [mu_0, mW_so, show upd M 0 0 76 = M 76 from rfl, ck_q4_76, ck_q4_77, ck_q4_78, ck_q4_79, ck_q4_0, ck_q4r_76, ck_q4r_77, ck_q4r_78, ck_q4r_79, ck_q4r_71, show upd M 0 0 78 = M 78 from rfl, show upd M 0 0 79 = M 79 from rfl, hq]; try dsimp only [kx_wp, kx_step, kx_lI, kx_lL, kx_lA, kx_gl, kx_pI, kx_pL, kx_pR, kx_pA, kx_pV, kx_s1, kx_s2, kx_sl, kx_pre, kx_c2, kx_pl, kx_cmp, kx_oF, kx_eqN, kx_nil, kx_c1, kx_ft, kx_aI, kx_aL, kx_aR, kx_ln, Nat.reduceAdd, Option.toList, List.cons_append, List.nil_append, mW_o, mf_0, mf_76])
    repeat' apply And.intro
    all_goals try (first | with_reducible assumption | (with_reducible refine ck_nzI ?_; simp; done) | (with_reducible refine ck_nzL ?_; simp; done) | (with_reducible refine vp_in_nI ?_ ?_ <;> first | omega | decide) | (with_reducible refine Nat.le_of_ble_eq_true ?_; rfl) | omega)
    · intro zc26
      with_reducible first | have ze26 := Int32.not_lt.mpr zc26 | have ze26 := Int32.not_le.mpr zc26 | have ze26 := Int32.not_le.mp zc26 | have ze26 := Int32.not_lt.mp zc26 | have ze26 := Int64.not_lt.mpr zc26 | have ze26 := Int64.not_le.mpr zc26 | have ze26 := Int64.not_le.mp zc26 | have ze26 := Int64.not_lt.mp zc26 | have ze26 := Decidable.not_not.mp zc26 | have ze26 := zc26
      refine hB bX11_speed_35 _ _ _ _ _ _ _ kX11_speed_35 ?_
      dsimp only [bX11_speed_35, kx_wp, kx_step, kx_lI, kx_lL, kx_lA, kx_gl, kx_pI, kx_pL, kx_pR, kx_pA, kx_pV, kx_s1, kx_s2, kx_sl, kx_pre, kx_c2, kx_pl, kx_cmp, kx_oF, kx_eqN, kx_nil, kx_c1, kx_ft, kx_aI, kx_aL, kx_aR, kx_ln, Nat.reduceAdd, Option.toList, List.cons_append, List.nil_append, mW_o, mf_0, mf_76]
      repeat (simp only [mu_0, mW_so, show upd M 0 0 76 = M 76 from rfl, ck_q4_76, ck_q4_77, ck_q4_78, ck_q4_79, ck_q4_0, ck_q4r_76, ck_q4r_77, ck_q4r_78, ck_q4r_79, ck_q4r_71, show upd M 0 0 78 = M 78 from rfl, show upd M 0 0 79 = M 79 from rfl, hq]; try dsimp only [kx_wp, kx_step, kx_lI, kx_lL, kx_lA, kx_gl, kx_pI, kx_pL, kx_pR, kx_pA, kx_pV, kx_s1, kx_s2, kx_sl, kx_pre, kx_c2, kx_pl, kx_cmp, kx_oF, kx_eqN, kx_nil, kx_c1, kx_ft, kx_aI, kx_aL, kx_aR, kx_ln, Nat.reduceAdd, Option.toList, List.cons_append, List.nil_append, mW_o, mf_0, mf_76])
      repeat' apply And.intro
      all_goals try (first | with_reducible assumption | (with_reducible refine ck_nzI ?_; simp; done) | (with_reducible refine ck_nzL ?_; simp; done) | (with_reducible refine vp_in_nI ?_ ?_ <;> first | omega | decide) | (with_reducible refine Nat.le_of_ble_eq_true ?_; rfl) | omega)
      refine hC.1 560 _ _ _ _ _ _ _ 11 _ _ _ _ _ _ _ _ _ _ _ _ lX11_560 (ct_X11_speedNow l G (M := ck_q4 (upd M 0 0) (a, b, x, y)) hz) ⟨by decide, rfl⟩ (mW_o) rfl rfl (Nat.le_of_ble_eq_true rfl) (by decide) (by decide) (by omega) (by omega) dX11_speed_36 ?_
      refine hB bX11_speed_39 _ _ _ _ _ _ _ kX11_speed_39 ?_
      dsimp only [bX11_speed_39, kx_wp, kx_step, kx_lI, kx_lL, kx_lA, kx_gl, kx_pI, kx_pL, kx_pR, kx_pA, kx_pV, kx_s1, kx_s2, kx_sl, kx_pre, kx_c2, kx_pl, kx_cmp, kx_oF, kx_eqN, kx_nil, kx_c1, kx_ft, kx_aI, kx_aL, kx_aR, kx_ln, Nat.reduceAdd, Option.toList, List.cons_append, List.nil_append, mW_o, mf_0, mf_76]
      repeat (simp only [mu_0, mW_so, show upd M 0 0 76 = M 76 from rfl, ck_q4_76, ck_q4_77, ck_q4_78, ck_q4_79, ck_q4_0, ck_q4r_76, ck_q4r_77, ck_q4r_78, ck_q4r_79, ck_q4r_71, show upd M 0 0 78 = M 78 from rfl, show upd M 0 0 79 = M 79 from rfl, hq]; try dsimp only [kx_wp, kx_step, kx_lI, kx_lL, kx_lA, kx_gl, kx_pI, kx_pL, kx_pR, kx_pA, kx_pV, kx_s1, kx_s2, kx_sl, kx_pre, kx_c2, kx_pl, kx_cmp, kx_oF, kx_eqN, kx_nil, kx_c1, kx_ft, kx_aI, kx_aL, kx_aR, kx_ln, Nat.reduceAdd, Option.toList, List.cons_append, List.nil_append, mW_o, mf_0, mf_76])
      all_goals (repeat' apply And.intro)
      all_goals ((try clear hB hC); first | exact True.intro | with_reducible rfl | with_reducible assumption | (with_reducible refine vp_in_nI ?_ ?_ <;> first | omega | decide) | exact Nat.le_of_ble_eq_true rfl | (with_reducible refine ck_nzI ?_; simp; done) | (with_reducible refine ck_nzL ?_; simp; done) | (simp only [pk_us, pk_uLs, ze10, ze26, ↓reduceIte, not_true_eq_false, not_false_eq_true]; done) | (simp only [ze10, ze26, ↓reduceIte, not_true_eq_false, not_false_eq_true]; with_reducible rfl) | skip)
    · intro zc26
      first | exact absurd rfl zc26 | exact absurd zc26 (by decide) | exact absurd (by decide) zc26 | (exfalso; exact zc26 ha) | (exfalso; simp_all; done)
  · intro zc10
    first | exact absurd rfl zc10 | exact absurd zc10 (by decide) | exact absurd (by decide) zc10 | (exfalso; exact zc26 ha) | (exfalso; simp_all; done)

set_option maxRecDepth 100000 in
set_option maxHeartbeats 4000000 in
theorem ct_X11_speed_f (l : Launch) (G : kx_G) {M : Nat → Int32} {A : Nat → Nat → Int32} {L : Nat → Nat → Int64} {R : kx_P} {sz : Nat} {x : Int32} {t : Int32} (hx : ¬ (0 ≤ x ∧ x ≤ M 21 - 1)) : kx_M l G sX11_speed 3 0 0 [.ref 93, .int (x), .int (t)] (mW M A L R) sz (some (.long 0)) (mW (upd (upd M 0 0) 0 1) A L R) sz := by
  refine kx_mk kx_tab kxLok_X11 (ini := false) [some (.ref 93), some (.int (x)), some (.int (t))] ⟨by decide, rfl, by decide, by decide⟩ (⟨_, rfl⟩) rfl rfl (fun g hB hC => ?_)
  refine hB bX11_speed_0 _ _ _ _ _ _ _ kX11_speed_0 ?_
  dsimp only [bX11_speed_0, kx_wp, kx_step, kx_lI, kx_lL, kx_lA, kx_gl, kx_pI, kx_pL, kx_pR, kx_pA, kx_pV, kx_s1, kx_s2, kx_sl, kx_pre, kx_c2, kx_pl, kx_cmp, kx_oF, kx_eqN, kx_nil, kx_c1, kx_ft, kx_aI, kx_aL, kx_aR, kx_ln, Nat.reduceAdd, Option.toList, List.cons_append, List.nil_append, mW_o, mf_0, mf_76]
  repeat (simp only [mu_0, mW_so]; try dsimp only [kx_wp, kx_step, kx_lI, kx_lL, kx_lA, kx_gl, kx_pI, kx_pL, kx_pR, kx_pA, kx_pV, kx_s1, kx_s2, kx_sl, kx_pre, kx_c2, kx_pl, kx_cmp, kx_oF, kx_eqN, kx_nil, kx_c1, kx_ft, kx_aI, kx_aL, kx_aR, kx_ln, Nat.reduceAdd, Option.toList, List.cons_append, List.nil_append, mW_o, mf_0, mf_76])
  repeat' apply And.intro
  all_goals try (first | with_reducible assumption | (with_reducible refine ck_nzI ?_; simp; done) | (with_reducible refine ck_nzL ?_; simp; done) | (with_reducible refine vp_in_nI ?_ ?_ <;> first | omega | decide) | (with_reducible refine Nat.le_of_ble_eq_true ?_; rfl) | omega)
  have hx2 : ¬ (0 ≤ x ∧ x ≤ upd M 0 0 21 - 1) := by rw [show upd M 0 0 21 = M 21 from rfl]; exact hx
  refine hC.1 358 _ _ _ _ _ _ _ 11 _ _ _ _ _ _ _ _ _ _ _ _ lX11_358 (ct_X11_isClock_f l G (M := upd M 0 0) hx2 rfl) ⟨by decide, rfl⟩ (mW_o) rfl rfl (Nat.le_of_ble_eq_true rfl) (by decide) (by decide) (by omega) (by omega) dX11_speed_7 ?_
  refine hB bX11_speed_10 _ _ _ _ _ _ _ kX11_speed_10 ?_
  dsimp only [bX11_speed_10, kx_wp, kx_step, kx_lI, kx_lL, kx_lA, kx_gl, kx_pI, kx_pL, kx_pR, kx_pA, kx_pV, kx_s1, kx_s2, kx_sl, kx_pre, kx_c2, kx_pl, kx_cmp, kx_oF, kx_eqN, kx_nil, kx_c1, kx_ft, kx_aI, kx_aL, kx_aR, kx_ln, Nat.reduceAdd, Option.toList, List.cons_append, List.nil_append, mW_o, mf_0, mf_76]
  repeat (simp only [mu_0, mW_so]; try dsimp only [kx_wp, kx_step, kx_lI, kx_lL, kx_lA, kx_gl, kx_pI, kx_pL, kx_pR, kx_pA, kx_pV, kx_s1, kx_s2, kx_sl, kx_pre, kx_c2, kx_pl, kx_cmp, kx_oF, kx_eqN, kx_nil, kx_c1, kx_ft, kx_aI, kx_aL, kx_aR, kx_ln, Nat.reduceAdd, Option.toList, List.cons_append, List.nil_append, mW_o, mf_0, mf_76])
  repeat' apply And.intro
  all_goals try (first | with_reducible assumption | (with_reducible refine ck_nzI ?_; simp; done) | (with_reducible refine ck_nzL ?_; simp; done) | (with_reducible refine vp_in_nI ?_ ?_ <;> first | omega | decide) | (with_reducible refine Nat.le_of_ble_eq_true ?_; rfl) | omega)
  · intro zc10
    first | exact absurd rfl zc10 | exact absurd zc10 (by decide) | exact absurd (by decide) zc10 | (exfalso; ((try clear hB hC); simp only [ck_lt, ck_le, ck_eq, not_true_eq_false, not_false_eq_true, Int32.reduceToInt, Int32.reduceAdd, Int32.reduceSub, Int32.reduceMul] at * <;> omega)) | (exfalso; simp_all; done)
  · intro zc10
    with_reducible first | have ze10 := Int32.not_lt.mpr zc10 | have ze10 := Int32.not_le.mpr zc10 | have ze10 := Int32.not_le.mp zc10 | have ze10 := Int32.not_lt.mp zc10 | have ze10 := Int64.not_lt.mpr zc10 | have ze10 := Int64.not_le.mpr zc10 | have ze10 := Int64.not_le.mp zc10 | have ze10 := Int64.not_lt.mp zc10 | have ze10 := Decidable.not_not.mp zc10 | have ze10 := zc10
    refine hB bX11_speed_13 _ _ _ _ _ _ _ kX11_speed_13 ?_
    dsimp only [bX11_speed_13, kx_wp, kx_step, kx_lI, kx_lL, kx_lA, kx_gl, kx_pI, kx_pL, kx_pR, kx_pA, kx_pV, kx_s1, kx_s2, kx_sl, kx_pre, kx_c2, kx_pl, kx_cmp, kx_oF, kx_eqN, kx_nil, kx_c1, kx_ft, kx_aI, kx_aL, kx_aR, kx_ln, Nat.reduceAdd, Option.toList, List.cons_append, List.nil_append, mW_o, mf_0, mf_76]
    repeat (simp only [mu_0, mW_so]; try dsimp only [kx_wp, kx_step, kx_lI, kx_lL, kx_lA, kx_gl, kx_pI, kx_pL, kx_pR, kx_pA, kx_pV, kx_s1, kx_s2, kx_sl, kx_pre, kx_c2, kx_pl, kx_cmp, kx_oF, kx_eqN, kx_nil, kx_c1, kx_ft, kx_aI, kx_aL, kx_aR, kx_ln, Nat.reduceAdd, Option.toList, List.cons_append, List.nil_append, mW_o, mf_0, mf_76])
    all_goals (repeat' apply And.intro)
    all_goals ((try clear hB hC); first | exact True.intro | with_reducible rfl | with_reducible assumption | (with_reducible refine vp_in_nI ?_ ?_ <;> first | omega | decide) | exact Nat.le_of_ble_eq_true rfl | (with_reducible refine ck_nzI ?_; simp; done) | (with_reducible refine ck_nzL ?_; simp; done) | (simp only [pk_us, pk_uLs, eq_true ze10, ↓reduceIte, not_true_eq_false, not_false_eq_true]; done) | (simp only [eq_true ze10, ↓reduceIte, not_true_eq_false, not_false_eq_true]; with_reducible rfl) | skip)


theorem ck_jm {j : Nat} (h : j < 2 ^ 31) : ¬ nI j = -1 := fun e => by
  have := congrArg Int32.toInt e
  rw [nI_toInt h] at this
  exact absurd this (by rw [show (-1 : Int32).toInt = -1 from rfl]; omega)
def ck_o : Option Nat → Int32
  | none => -1
  | some j => nI j
def ck_lw (A : Nat → Nat → Int32) (i t : Int32) : Nat → Option Nat
  | 0 => none
  | k + 1 => if A 136 k ≤ t then (if A 135 k ≤ i then (match ck_lw A i t k with | none => some k | some j => if A 135 j ≤ A 135 k then some k else some j) else ck_lw A i t k) else ck_lw A i t k
theorem ck_lw_lt {A : Nat → Nat → Int32} {i t : Int32} : ∀ (k j : Nat), ck_lw A i t k = some j → j < k := by
  intro k
  induction k with
  | zero => intro j h; cases h
  | succ k ih =>
    intro j h
    rw [ck_lw] at h
    split at h
    · split at h
      · split at h
        · cases h; omega
        · rename_i j9 e9
          have := ih _ e9
          split at h <;> cases h <;> omega
      · have := ih _ h; omega
    · have := ih _ h; omega
def ck_lwr (A : Nat → Nat → Int32) (o : Option Nat) : Int32 := match o with | none => -1 | some j => A 134 j
def bX11_lawful_0 : List kx_O := [(.aload_n 0, 0, 0, 0, .null), (.iconst 0, 0, 0, 0, .int 0), (.putfield 1, 11, 0, 0, .null), (.iconst (-1), 0, 0, 0, .int (-1)), (.istore_n 3, 3, 0, 0, .null), (.iconst 0, 0, 0, 0, .int 0), (.istore 4, 4, 0, 0, .null)]
theorem kX11_lawful_0 : kx_oks kxL_X11 false cX11_lawful 0 bX11_lawful_0 = true := by decide +kernel
def bX11_lawful_10 : List kx_O := [(.iload 4, 4, 0, 0, .null), (.aload_n 0, 0, 0, 0, .null), (.getfield 567, 11, 80, 0, .null), (.if_icmp .ge 55, 71, 0, 0, .null)]
theorem kX11_lawful_10 : kx_oks kxL_X11 false cX11_lawful 10 bX11_lawful_10 = true := by decide +kernel
def bX11_lawful_19 : List kx_O := [(.aload_n 0, 0, 0, 0, .null), (.getfield 146, 11, 83, 0, .null), (.iload 4, 4, 0, 0, .null), (.iaload, 0, 0, 0, .null), (.iload_n 2, 2, 0, 0, .null), (.if_icmp .gt 38, 65, 0, 0, .null)]
theorem kX11_lawful_19 : kx_oks kxL_X11 false cX11_lawful 19 bX11_lawful_19 = true := by decide +kernel
def bX11_lawful_30 : List kx_O := [(.aload_n 0, 0, 0, 0, .null), (.getfield 143, 11, 82, 0, .null), (.iload 4, 4, 0, 0, .null), (.iaload, 0, 0, 0, .null), (.iload_n 1, 1, 0, 0, .null), (.if_icmp .gt 27, 65, 0, 0, .null)]
theorem kX11_lawful_30 : kx_oks kxL_X11 false cX11_lawful 30 bX11_lawful_30 = true := by decide +kernel
def bX11_lawful_41 : List kx_O := [(.iload_n 3, 3, 0, 0, .null), (.iconst (-1), 0, 0, 0, .int (-1)), (.if_icmp .eq 19, 62, 0, 0, .null)]
theorem kX11_lawful_41 : kx_oks kxL_X11 false cX11_lawful 41 bX11_lawful_41 = true := by decide +kernel
def bX11_lawful_46 : List kx_O := [(.aload_n 0, 0, 0, 0, .null), (.getfield 143, 11, 82, 0, .null), (.iload 4, 4, 0, 0, .null), (.iaload, 0, 0, 0, .null), (.aload_n 0, 0, 0, 0, .null), (.getfield 143, 11, 82, 0, .null), (.iload_n 3, 3, 0, 0, .null), (.iaload, 0, 0, 0, .null), (.if_icmp .lt 6, 65, 0, 0, .null)]
theorem kX11_lawful_46 : kx_oks kxL_X11 false cX11_lawful 46 bX11_lawful_46 = true := by decide +kernel
def bX11_lawful_62 : List kx_O := [(.iload 4, 4, 0, 0, .null), (.istore_n 3, 3, 0, 0, .null)]
theorem kX11_lawful_62 : kx_oks kxL_X11 false cX11_lawful 62 bX11_lawful_62 = true := by decide +kernel
def bX11_lawful_65 : List kx_O := [(.iinc 4 1, 4, 0, 0, .int 1), (.goto (-58), 10, 0, 0, .null)]
theorem kX11_lawful_65 : kx_oks kxL_X11 false cX11_lawful 65 bX11_lawful_65 = true := by decide +kernel
def bX11_lawful_71 : List kx_O := [(.iload_n 3, 3, 0, 0, .null), (.iconst (-1), 0, 0, 0, .int (-1)), (.if_icmp .ne 7, 80, 0, 0, .null)]
theorem kX11_lawful_71 : kx_oks kxL_X11 false cX11_lawful 71 bX11_lawful_71 = true := by decide +kernel
def bX11_lawful_76 : List kx_O := [(.iconst (-1), 0, 0, 0, .int (-1)), (.goto 9, 86, 0, 0, .null)]
theorem kX11_lawful_76 : kx_oks kxL_X11 false cX11_lawful 76 bX11_lawful_76 = true := by decide +kernel
def bX11_lawful_80 : List kx_O := [(.aload_n 0, 0, 0, 0, .null), (.getfield 140, 11, 81, 0, .null), (.iload_n 3, 3, 0, 0, .null), (.iaload, 0, 0, 0, .null)]
theorem kX11_lawful_80 : kx_oks kxL_X11 false cX11_lawful 80 bX11_lawful_80 = true := by decide +kernel
def bX11_lawful_86 : List kx_O := [(.ireturn, 0, 0, 0, .null)]
theorem kX11_lawful_86 : kx_oks kxL_X11 false cX11_lawful 86 bX11_lawful_86 = true := by decide +kernel
set_option maxRecDepth 100000 in
set_option maxHeartbeats 4000000 in
theorem ct_X11_lawful (l : Launch) (G : kx_G) {M : Nat → Int32} {A : Nat → Nat → Int32} {L : Nat → Nat → Int64} {R : kx_P} {sz : Nat} {i t : Int32} {n : Nat} (h80 : M 80 = nI n) (hn : n ≤ 40)  : kx_M l G sX11_lawful 1 0 0 [.ref 93, .int (i), .int (t)] (mW M A L R) sz (some (.int (ck_lwr A (ck_lw A i t n)))) (mW (upd M 0 0) A L R) sz := by
  refine kx_mk kx_tab kxLok_X11 (ini := false) [some (.ref 93), some (.int (i)), some (.int (t)), none, none] ⟨by decide, rfl, by decide, by decide⟩ (⟨_, rfl⟩) rfl rfl (fun g hB hC => ?_)
  have loop10 : ∀ (n9 : Nat) (k : Nat), k + n9 = n → g 10 [some (.ref 93), some (.int i), some (.int t), some (.int (ck_o (ck_lw A i t k))), some (.int (nI k))] [] (mW (upd M 0 0) A L R) sz 0 0 := by
    intro n9
    induction n9 with
    | zero =>
      intro k hk
      have hk40 : k < 2 ^ 31 := by omega
      obtain rfl : k = n := by omega
      rcases hb : ck_lw A i t k with _ | j
      · dsimp only [ck_o]
        refine hB bX11_lawful_10 _ _ _ _ _ _ _ kX11_lawful_10 ?_
        dsimp only [bX11_lawful_10, kx_wp, kx_step, kx_lI, kx_lL, kx_lA, kx_gl, kx_pI, kx_pL, kx_pR, kx_pA, kx_pV, kx_s1, kx_s2, kx_sl, kx_pre, kx_c2, kx_pl, kx_cmp, kx_oF, kx_eqN, kx_nil, kx_c1, kx_ft, kx_aI, kx_aL, kx_aR, kx_ln, Nat.reduceAdd, Option.toList, List.cons_append, List.nil_append, mW_o, mf_0, mf_80, mf_83, m_136, mf_82, m_135, mf_81, m_134]
        repeat (simp only [mu_0, mW_so, ms_136, ms_135, ms_134, show upd M 0 0 80 = M 80 from rfl, h80, nI_1, nI_clamp hk40]; try dsimp only [kx_wp, kx_step, kx_lI, kx_lL, kx_lA, kx_gl, kx_pI, kx_pL, kx_pR, kx_pA, kx_pV, kx_s1, kx_s2, kx_sl, kx_pre, kx_c2, kx_pl, kx_cmp, kx_oF, kx_eqN, kx_nil, kx_c1, kx_ft, kx_aI, kx_aL, kx_aR, kx_ln, Nat.reduceAdd, Option.toList, List.cons_append, List.nil_append, mW_o, mf_0, mf_80, mf_83, m_136, mf_82, m_135, mf_81, m_134])
        repeat' apply And.intro
        all_goals try (first | with_reducible assumption | (with_reducible refine ck_nzI ?_; simp; done) | (with_reducible refine ck_nzL ?_; simp; done) | (with_reducible refine vp_in_nI ?_ ?_ <;> first | omega | decide) | (with_reducible refine Nat.le_of_ble_eq_true ?_; rfl) | omega)
        · intro zc16
          with_reducible first | have ze16 := Int32.not_lt.mpr zc16 | have ze16 := Int32.not_le.mpr zc16 | have ze16 := Int32.not_le.mp zc16 | have ze16 := Int32.not_lt.mp zc16 | have ze16 := Int64.not_lt.mpr zc16 | have ze16 := Int64.not_le.mpr zc16 | have ze16 := Int64.not_le.mp zc16 | have ze16 := Int64.not_lt.mp zc16 | have ze16 := Decidable.not_not.mp zc16 | have ze16 := zc16
          refine hB bX11_lawful_71 _ _ _ _ _ _ _ kX11_lawful_71 ?_
          dsimp only [bX11_lawful_71, kx_wp, kx_step, kx_lI, kx_lL, kx_lA, kx_gl, kx_pI, kx_pL, kx_pR, kx_pA, kx_pV, kx_s1, kx_s2, kx_sl, kx_pre, kx_c2, kx_pl, kx_cmp, kx_oF, kx_eqN, kx_nil, kx_c1, kx_ft, kx_aI, kx_aL, kx_aR, kx_ln, Nat.reduceAdd, Option.toList, List.cons_append, List.nil_append, mW_o, mf_0, mf_80, mf_83, m_136, mf_82, m_135, mf_81, m_134]
          repeat (simp only [mu_0, mW_so, ms_136, ms_135, ms_134, show upd M 0 0 80 = M 80 from rfl, h80, nI_1, nI_clamp hk40]; try dsimp only [kx_wp, kx_step, kx_lI, kx_lL, kx_lA, kx_gl, kx_pI, kx_pL, kx_pR, kx_pA, kx_pV, kx_s1, kx_s2, kx_sl, kx_pre, kx_c2, kx_pl, kx_cmp, kx_oF, kx_eqN, kx_nil, kx_c1, kx_ft, kx_aI, kx_aL, kx_aR, kx_ln, Nat.reduceAdd, Option.toList, List.cons_append, List.nil_append, mW_o, mf_0, mf_80, mf_83, m_136, mf_82, m_135, mf_81, m_134])
          repeat' apply And.intro
          all_goals try (first | with_reducible assumption | (with_reducible refine ck_nzI ?_; simp; done) | (with_reducible refine ck_nzL ?_; simp; done) | (with_reducible refine vp_in_nI ?_ ?_ <;> first | omega | decide) | (with_reducible refine Nat.le_of_ble_eq_true ?_; rfl) | omega)
          · intro zc73
            first | exact absurd rfl zc73 | exact absurd zc73 (by decide) | exact absurd (by decide) zc73 | (exfalso; first | exact absurd zc43 (ck_jm hj40) | exact absurd (Decidable.not_not.mp zc73) (ck_jm hj40) | exact absurd zc16 (by first | (simp only [nI_leI (show n < 2 ^ 31 by omega) hk40]; omega) | (simp only [nI_leI (show n < 2 ^ 31 by omega) hk40, Decidable.not_not]; omega))) | (exfalso; simp_all; done)
          · intro zc73
            with_reducible first | have ze73 := Int32.not_lt.mpr zc73 | have ze73 := Int32.not_le.mpr zc73 | have ze73 := Int32.not_le.mp zc73 | have ze73 := Int32.not_lt.mp zc73 | have ze73 := Int64.not_lt.mpr zc73 | have ze73 := Int64.not_le.mpr zc73 | have ze73 := Int64.not_le.mp zc73 | have ze73 := Int64.not_lt.mp zc73 | have ze73 := Decidable.not_not.mp zc73 | have ze73 := zc73
            refine hB bX11_lawful_76 _ _ _ _ _ _ _ kX11_lawful_76 ?_
            dsimp only [bX11_lawful_76, kx_wp, kx_step, kx_lI, kx_lL, kx_lA, kx_gl, kx_pI, kx_pL, kx_pR, kx_pA, kx_pV, kx_s1, kx_s2, kx_sl, kx_pre, kx_c2, kx_pl, kx_cmp, kx_oF, kx_eqN, kx_nil, kx_c1, kx_ft, kx_aI, kx_aL, kx_aR, kx_ln, Nat.reduceAdd, Option.toList, List.cons_append, List.nil_append, mW_o, mf_0, mf_80, mf_83, m_136, mf_82, m_135, mf_81, m_134]
            repeat (simp only [mu_0, mW_so, ms_136, ms_135, ms_134, show upd M 0 0 80 = M 80 from rfl, h80, nI_1, nI_clamp hk40]; try dsimp only [kx_wp, kx_step, kx_lI, kx_lL, kx_lA, kx_gl, kx_pI, kx_pL, kx_pR, kx_pA, kx_pV, kx_s1, kx_s2, kx_sl, kx_pre, kx_c2, kx_pl, kx_cmp, kx_oF, kx_eqN, kx_nil, kx_c1, kx_ft, kx_aI, kx_aL, kx_aR, kx_ln, Nat.reduceAdd, Option.toList, List.cons_append, List.nil_append, mW_o, mf_0, mf_80, mf_83, m_136, mf_82, m_135, mf_81, m_134])
            repeat' apply And.intro
            all_goals try (first | with_reducible assumption | (with_reducible refine ck_nzI ?_; simp; done) | (with_reducible refine ck_nzL ?_; simp; done) | (with_reducible refine vp_in_nI ?_ ?_ <;> first | omega | decide) | (with_reducible refine Nat.le_of_ble_eq_true ?_; rfl) | omega)
            refine hB bX11_lawful_86 _ _ _ _ _ _ _ kX11_lawful_86 ?_
            dsimp only [bX11_lawful_86, kx_wp, kx_step, kx_lI, kx_lL, kx_lA, kx_gl, kx_pI, kx_pL, kx_pR, kx_pA, kx_pV, kx_s1, kx_s2, kx_sl, kx_pre, kx_c2, kx_pl, kx_cmp, kx_oF, kx_eqN, kx_nil, kx_c1, kx_ft, kx_aI, kx_aL, kx_aR, kx_ln, Nat.reduceAdd, Option.toList, List.cons_append, List.nil_append, mW_o, mf_0, mf_80, mf_83, m_136, mf_82, m_135, mf_81, m_134]
            repeat (simp only [mu_0, mW_so, ms_136, ms_135, ms_134, show upd M 0 0 80 = M 80 from rfl, h80, nI_1, nI_clamp hk40]; try dsimp only [kx_wp, kx_step, kx_lI, kx_lL, kx_lA, kx_gl, kx_pI, kx_pL, kx_pR, kx_pA, kx_pV, kx_s1, kx_s2, kx_sl, kx_pre, kx_c2, kx_pl, kx_cmp, kx_oF, kx_eqN, kx_nil, kx_c1, kx_ft, kx_aI, kx_aL, kx_aR, kx_ln, Nat.reduceAdd, Option.toList, List.cons_append, List.nil_append, mW_o, mf_0, mf_80, mf_83, m_136, mf_82, m_135, mf_81, m_134])
            all_goals (repeat' apply And.intro)
            all_goals ((try clear hB hC); first | exact True.intro | with_reducible rfl | with_reducible assumption | (with_reducible refine vp_in_nI ?_ ?_ <;> first | omega | decide) | exact Nat.le_of_ble_eq_true rfl | (with_reducible refine ck_nzI ?_; simp; done) | (with_reducible refine ck_nzL ?_; simp; done) | (simp only [pk_us, pk_uLs, ck_lwr, zc16, ze16, eq_true ze73, ↓reduceIte, not_true_eq_false, not_false_eq_true, hb]; done) | (simp only [ck_lwr, zc16, ze16, eq_true ze73, ↓reduceIte, not_true_eq_false, not_false_eq_true, hb]; with_reducible rfl) | skip)
        · intro zc16
          first | exact absurd rfl zc16 | exact absurd zc16 (by decide) | exact absurd (by decide) zc16 | (exfalso; first | exact absurd zc43 (ck_jm hj40) | exact absurd (Decidable.not_not.mp zc73) (ck_jm hj40) | exact absurd zc16 (by first | (simp only [nI_leI (show n < 2 ^ 31 by omega) hk40]; omega) | (simp only [nI_leI (show n < 2 ^ 31 by omega) hk40, Decidable.not_not]; omega))) | (exfalso; simp_all; done)
      · have hj := ck_lw_lt k j hb
        have hj40 : j < 2 ^ 31 := by omega
        dsimp only [ck_o]
        refine hB bX11_lawful_10 _ _ _ _ _ _ _ kX11_lawful_10 ?_
        dsimp only [bX11_lawful_10, kx_wp, kx_step, kx_lI, kx_lL, kx_lA, kx_gl, kx_pI, kx_pL, kx_pR, kx_pA, kx_pV, kx_s1, kx_s2, kx_sl, kx_pre, kx_c2, kx_pl, kx_cmp, kx_oF, kx_eqN, kx_nil, kx_c1, kx_ft, kx_aI, kx_aL, kx_aR, kx_ln, Nat.reduceAdd, Option.toList, List.cons_append, List.nil_append, mW_o, mf_0, mf_80, mf_83, m_136, mf_82, m_135, mf_81, m_134]
        repeat (simp only [mu_0, mW_so, ms_136, ms_135, ms_134, show upd M 0 0 80 = M 80 from rfl, h80, nI_1, nI_clamp hk40, nI_clamp hj40]; try dsimp only [kx_wp, kx_step, kx_lI, kx_lL, kx_lA, kx_gl, kx_pI, kx_pL, kx_pR, kx_pA, kx_pV, kx_s1, kx_s2, kx_sl, kx_pre, kx_c2, kx_pl, kx_cmp, kx_oF, kx_eqN, kx_nil, kx_c1, kx_ft, kx_aI, kx_aL, kx_aR, kx_ln, Nat.reduceAdd, Option.toList, List.cons_append, List.nil_append, mW_o, mf_0, mf_80, mf_83, m_136, mf_82, m_135, mf_81, m_134])
        repeat' apply And.intro
        all_goals try (first | with_reducible assumption | (with_reducible refine ck_nzI ?_; simp; done) | (with_reducible refine ck_nzL ?_; simp; done) | (with_reducible refine vp_in_nI ?_ ?_ <;> first | omega | decide) | (with_reducible refine Nat.le_of_ble_eq_true ?_; rfl) | omega)
        · intro zc16
          with_reducible first | have ze16 := Int32.not_lt.mpr zc16 | have ze16 := Int32.not_le.mpr zc16 | have ze16 := Int32.not_le.mp zc16 | have ze16 := Int32.not_lt.mp zc16 | have ze16 := Int64.not_lt.mpr zc16 | have ze16 := Int64.not_le.mpr zc16 | have ze16 := Int64.not_le.mp zc16 | have ze16 := Int64.not_lt.mp zc16 | have ze16 := Decidable.not_not.mp zc16 | have ze16 := zc16
          refine hB bX11_lawful_71 _ _ _ _ _ _ _ kX11_lawful_71 ?_
          dsimp only [bX11_lawful_71, kx_wp, kx_step, kx_lI, kx_lL, kx_lA, kx_gl, kx_pI, kx_pL, kx_pR, kx_pA, kx_pV, kx_s1, kx_s2, kx_sl, kx_pre, kx_c2, kx_pl, kx_cmp, kx_oF, kx_eqN, kx_nil, kx_c1, kx_ft, kx_aI, kx_aL, kx_aR, kx_ln, Nat.reduceAdd, Option.toList, List.cons_append, List.nil_append, mW_o, mf_0, mf_80, mf_83, m_136, mf_82, m_135, mf_81, m_134]
          repeat (simp only [mu_0, mW_so, ms_136, ms_135, ms_134, show upd M 0 0 80 = M 80 from rfl, h80, nI_1, nI_clamp hk40, nI_clamp hj40]; try dsimp only [kx_wp, kx_step, kx_lI, kx_lL, kx_lA, kx_gl, kx_pI, kx_pL, kx_pR, kx_pA, kx_pV, kx_s1, kx_s2, kx_sl, kx_pre, kx_c2, kx_pl, kx_cmp, kx_oF, kx_eqN, kx_nil, kx_c1, kx_ft, kx_aI, kx_aL, kx_aR, kx_ln, Nat.reduceAdd, Option.toList, List.cons_append, List.nil_append, mW_o, mf_0, mf_80, mf_83, m_136, mf_82, m_135, mf_81, m_134])
          repeat' apply And.intro
          all_goals try (first | with_reducible assumption | (with_reducible refine ck_nzI ?_; simp; done) | (with_reducible refine ck_nzL ?_; simp; done) | (with_reducible refine vp_in_nI ?_ ?_ <;> first | omega | decide) | (with_reducible refine Nat.le_of_ble_eq_true ?_; rfl) | omega)
          · intro zc73
            with_reducible first | have ze73 := Int32.not_lt.mpr zc73 | have ze73 := Int32.not_le.mpr zc73 | have ze73 := Int32.not_le.mp zc73 | have ze73 := Int32.not_lt.mp zc73 | have ze73 := Int64.not_lt.mpr zc73 | have ze73 := Int64.not_le.mpr zc73 | have ze73 := Int64.not_le.mp zc73 | have ze73 := Int64.not_lt.mp zc73 | have ze73 := Decidable.not_not.mp zc73 | have ze73 := zc73
            refine hB bX11_lawful_80 _ _ _ _ _ _ _ kX11_lawful_80 ?_
            dsimp only [bX11_lawful_80, kx_wp, kx_step, kx_lI, kx_lL, kx_lA, kx_gl, kx_pI, kx_pL, kx_pR, kx_pA, kx_pV, kx_s1, kx_s2, kx_sl, kx_pre, kx_c2, kx_pl, kx_cmp, kx_oF, kx_eqN, kx_nil, kx_c1, kx_ft, kx_aI, kx_aL, kx_aR, kx_ln, Nat.reduceAdd, Option.toList, List.cons_append, List.nil_append, mW_o, mf_0, mf_80, mf_83, m_136, mf_82, m_135, mf_81, m_134]
            repeat (simp only [mu_0, mW_so, ms_136, ms_135, ms_134, show upd M 0 0 80 = M 80 from rfl, h80, nI_1, nI_clamp hk40, nI_clamp hj40]; try dsimp only [kx_wp, kx_step, kx_lI, kx_lL, kx_lA, kx_gl, kx_pI, kx_pL, kx_pR, kx_pA, kx_pV, kx_s1, kx_s2, kx_sl, kx_pre, kx_c2, kx_pl, kx_cmp, kx_oF, kx_eqN, kx_nil, kx_c1, kx_ft, kx_aI, kx_aL, kx_aR, kx_ln, Nat.reduceAdd, Option.toList, List.cons_append, List.nil_append, mW_o, mf_0, mf_80, mf_83, m_136, mf_82, m_135, mf_81, m_134])
            repeat' apply And.intro
            all_goals try (first | with_reducible assumption | (with_reducible refine ck_nzI ?_; simp; done) | (with_reducible refine ck_nzL ?_; simp; done) | (with_reducible refine vp_in_nI ?_ ?_ <;> first | omega | decide) | (with_reducible refine Nat.le_of_ble_eq_true ?_; rfl) | omega)
            refine hB bX11_lawful_86 _ _ _ _ _ _ _ kX11_lawful_86 ?_
            dsimp only [bX11_lawful_86, kx_wp, kx_step, kx_lI, kx_lL, kx_lA, kx_gl, kx_pI, kx_pL, kx_pR, kx_pA, kx_pV, kx_s1, kx_s2, kx_sl, kx_pre, kx_c2, kx_pl, kx_cmp, kx_oF, kx_eqN, kx_nil, kx_c1, kx_ft, kx_aI, kx_aL, kx_aR, kx_ln, Nat.reduceAdd, Option.toList, List.cons_append, List.nil_append, mW_o, mf_0, mf_80, mf_83, m_136, mf_82, m_135, mf_81, m_134]
            repeat (simp only [mu_0, mW_so, ms_136, ms_135, ms_134, show upd M 0 0 80 = M 80 from rfl, h80, nI_1, nI_clamp hk40, nI_clamp hj40]; try dsimp only [kx_wp, kx_step, kx_lI, kx_lL, kx_lA, kx_gl, kx_pI, kx_pL, kx_pR, kx_pA, kx_pV, kx_s1, kx_s2, kx_sl, kx_pre, kx_c2, kx_pl, kx_cmp, kx_oF, kx_eqN, kx_nil, kx_c1, kx_ft, kx_aI, kx_aL, kx_aR, kx_ln, Nat.reduceAdd, Option.toList, List.cons_append, List.nil_append, mW_o, mf_0, mf_80, mf_83, m_136, mf_82, m_135, mf_81, m_134])
            all_goals (repeat' apply And.intro)
            all_goals ((try clear hB hC); first | exact True.intro | with_reducible rfl | with_reducible assumption | (with_reducible refine vp_in_nI ?_ ?_ <;> first | omega | decide) | exact Nat.le_of_ble_eq_true rfl | (with_reducible refine ck_nzI ?_; simp; done) | (with_reducible refine ck_nzL ?_; simp; done) | (simp only [pk_us, pk_uLs, ck_lwr, zc16, ze16, ze73, ↓reduceIte, not_true_eq_false, not_false_eq_true, hb]; done) | (simp only [ck_lwr, zc16, ze16, ze73, ↓reduceIte, not_true_eq_false, not_false_eq_true, hb]; with_reducible rfl) | skip)
          · intro zc73
            first | exact absurd rfl zc73 | exact absurd zc73 (by decide) | exact absurd (by decide) zc73 | (exfalso; first | exact absurd zc43 (ck_jm hj40) | exact absurd (Decidable.not_not.mp zc73) (ck_jm hj40) | exact absurd zc16 (by first | (simp only [nI_leI (show n < 2 ^ 31 by omega) hk40]; omega) | (simp only [nI_leI (show n < 2 ^ 31 by omega) hk40, Decidable.not_not]; omega))) | (exfalso; simp_all; done)
        · intro zc16
          first | exact absurd rfl zc16 | exact absurd zc16 (by decide) | exact absurd (by decide) zc16 | (exfalso; first | exact absurd zc43 (ck_jm hj40) | exact absurd (Decidable.not_not.mp zc73) (ck_jm hj40) | exact absurd zc16 (by first | (simp only [nI_leI (show n < 2 ^ 31 by omega) hk40]; omega) | (simp only [nI_leI (show n < 2 ^ 31 by omega) hk40, Decidable.not_not]; omega))) | (exfalso; simp_all; done)
    | succ n9 ih =>
      intro k hk
      have hk40 : k < 2 ^ 31 := by omega
      rcases hb : ck_lw A i t k with _ | j
      · dsimp only [ck_o]
        refine hB bX11_lawful_10 _ _ _ _ _ _ _ kX11_lawful_10 ?_
        dsimp only [bX11_lawful_10, kx_wp, kx_step, kx_lI, kx_lL, kx_lA, kx_gl, kx_pI, kx_pL, kx_pR, kx_pA, kx_pV, kx_s1, kx_s2, kx_sl, kx_pre, kx_c2, kx_pl, kx_cmp, kx_oF, kx_eqN, kx_nil, kx_c1, kx_ft, kx_aI, kx_aL, kx_aR, kx_ln, Nat.reduceAdd, Option.toList, List.cons_append, List.nil_append, mW_o, mf_0, mf_80, mf_83, m_136, mf_82, m_135, mf_81, m_134]
        repeat (simp only [mu_0, mW_so, ms_136, ms_135, ms_134, show upd M 0 0 80 = M 80 from rfl, h80, nI_1, nI_clamp hk40]; try dsimp only [kx_wp, kx_step, kx_lI, kx_lL, kx_lA, kx_gl, kx_pI, kx_pL, kx_pR, kx_pA, kx_pV, kx_s1, kx_s2, kx_sl, kx_pre, kx_c2, kx_pl, kx_cmp, kx_oF, kx_eqN, kx_nil, kx_c1, kx_ft, kx_aI, kx_aL, kx_aR, kx_ln, Nat.reduceAdd, Option.toList, List.cons_append, List.nil_append, mW_o, mf_0, mf_80, mf_83, m_136, mf_82, m_135, mf_81, m_134])
        repeat' apply And.intro
        all_goals try (first | with_reducible assumption | (with_reducible refine ck_nzI ?_; simp; done) | (with_reducible refine ck_nzL ?_; simp; done) | (with_reducible refine vp_in_nI ?_ ?_ <;> first | omega | decide) | (with_reducible refine Nat.le_of_ble_eq_true ?_; rfl) | omega)
        · intro zc16
          first | exact absurd rfl zc16 | exact absurd zc16 (by decide) | exact absurd (by decide) zc16 | (exfalso; first | exact absurd zc43 (ck_jm hj40) | exact absurd (Decidable.not_not.mp zc73) (ck_jm hj40) | exact absurd zc16 (by first | (simp only [nI_leI (show n < 2 ^ 31 by omega) hk40]; omega) | (simp only [nI_leI (show n < 2 ^ 31 by omega) hk40, Decidable.not_not]; omega))) | (exfalso; simp_all; done)
        · intro zc16
          with_reducible first | have ze16 := Int32.not_lt.mpr zc16 | have ze16 := Int32.not_le.mpr zc16 | have ze16 := Int32.not_le.mp zc16 | have ze16 := Int32.not_lt.mp zc16 | have ze16 := Int64.not_lt.mpr zc16 | have ze16 := Int64.not_le.mpr zc16 | have ze16 := Int64.not_le.mp zc16 | have ze16 := Int64.not_lt.mp zc16 | have ze16 := Decidable.not_not.mp zc16 | have ze16 := zc16
          refine hB bX11_lawful_19 _ _ _ _ _ _ _ kX11_lawful_19 ?_
          dsimp only [bX11_lawful_19, kx_wp, kx_step, kx_lI, kx_lL, kx_lA, kx_gl, kx_pI, kx_pL, kx_pR, kx_pA, kx_pV, kx_s1, kx_s2, kx_sl, kx_pre, kx_c2, kx_pl, kx_cmp, kx_oF, kx_eqN, kx_nil, kx_c1, kx_ft, kx_aI, kx_aL, kx_aR, kx_ln, Nat.reduceAdd, Option.toList, List.cons_append, List.nil_append, mW_o, mf_0, mf_80, mf_83, m_136, mf_82, m_135, mf_81, m_134]
          repeat (simp only [mu_0, mW_so, ms_136, ms_135, ms_134, show upd M 0 0 80 = M 80 from rfl, h80, nI_1, nI_clamp hk40]; try dsimp only [kx_wp, kx_step, kx_lI, kx_lL, kx_lA, kx_gl, kx_pI, kx_pL, kx_pR, kx_pA, kx_pV, kx_s1, kx_s2, kx_sl, kx_pre, kx_c2, kx_pl, kx_cmp, kx_oF, kx_eqN, kx_nil, kx_c1, kx_ft, kx_aI, kx_aL, kx_aR, kx_ln, Nat.reduceAdd, Option.toList, List.cons_append, List.nil_append, mW_o, mf_0, mf_80, mf_83, m_136, mf_82, m_135, mf_81, m_134])
          repeat' apply And.intro
          all_goals try (first | with_reducible assumption | (with_reducible refine ck_nzI ?_; simp; done) | (with_reducible refine ck_nzL ?_; simp; done) | (with_reducible refine vp_in_nI ?_ ?_ <;> first | omega | decide) | (with_reducible refine Nat.le_of_ble_eq_true ?_; rfl) | omega)
          · intro zc27
            with_reducible first | have ze27 := Int32.not_lt.mpr zc27 | have ze27 := Int32.not_le.mpr zc27 | have ze27 := Int32.not_le.mp zc27 | have ze27 := Int32.not_lt.mp zc27 | have ze27 := Int64.not_lt.mpr zc27 | have ze27 := Int64.not_le.mpr zc27 | have ze27 := Int64.not_le.mp zc27 | have ze27 := Int64.not_lt.mp zc27 | have ze27 := Decidable.not_not.mp zc27 | have ze27 := zc27
            refine hB bX11_lawful_65 _ _ _ _ _ _ _ kX11_lawful_65 ?_
            dsimp only [bX11_lawful_65, kx_wp, kx_step, kx_lI, kx_lL, kx_lA, kx_gl, kx_pI, kx_pL, kx_pR, kx_pA, kx_pV, kx_s1, kx_s2, kx_sl, kx_pre, kx_c2, kx_pl, kx_cmp, kx_oF, kx_eqN, kx_nil, kx_c1, kx_ft, kx_aI, kx_aL, kx_aR, kx_ln, Nat.reduceAdd, Option.toList, List.cons_append, List.nil_append, mW_o, mf_0, mf_80, mf_83, m_136, mf_82, m_135, mf_81, m_134]
            repeat (simp only [mu_0, mW_so, ms_136, ms_135, ms_134, show upd M 0 0 80 = M 80 from rfl, h80, nI_1, nI_clamp hk40]; try dsimp only [kx_wp, kx_step, kx_lI, kx_lL, kx_lA, kx_gl, kx_pI, kx_pL, kx_pR, kx_pA, kx_pV, kx_s1, kx_s2, kx_sl, kx_pre, kx_c2, kx_pl, kx_cmp, kx_oF, kx_eqN, kx_nil, kx_c1, kx_ft, kx_aI, kx_aL, kx_aR, kx_ln, Nat.reduceAdd, Option.toList, List.cons_append, List.nil_append, mW_o, mf_0, mf_80, mf_83, m_136, mf_82, m_135, mf_81, m_134])
            repeat' apply And.intro
            all_goals try (first | with_reducible assumption | (with_reducible refine ck_nzI ?_; simp; done) | (with_reducible refine ck_nzL ?_; simp; done) | (with_reducible refine vp_in_nI ?_ ?_ <;> first | omega | decide) | (with_reducible refine Nat.le_of_ble_eq_true ?_; rfl) | omega)
            have ze := ih (k + 1) (by omega)
            simp only [ck_lw, hb, zc16, ze16, zc27, ze27, ↓reduceIte, ck_o] at ze
            exact ze
          · intro zc27
            with_reducible first | have ze27 := Int32.not_lt.mpr zc27 | have ze27 := Int32.not_le.mpr zc27 | have ze27 := Int32.not_le.mp zc27 | have ze27 := Int32.not_lt.mp zc27 | have ze27 := Int64.not_lt.mpr zc27 | have ze27 := Int64.not_le.mpr zc27 | have ze27 := Int64.not_le.mp zc27 | have ze27 := Int64.not_lt.mp zc27 | have ze27 := Decidable.not_not.mp zc27 | have ze27 := zc27
            refine hB bX11_lawful_30 _ _ _ _ _ _ _ kX11_lawful_30 ?_
            dsimp only [bX11_lawful_30, kx_wp, kx_step, kx_lI, kx_lL, kx_lA, kx_gl, kx_pI, kx_pL, kx_pR, kx_pA, kx_pV, kx_s1, kx_s2, kx_sl, kx_pre, kx_c2, kx_pl, kx_cmp, kx_oF, kx_eqN, kx_nil, kx_c1, kx_ft, kx_aI, kx_aL, kx_aR, kx_ln, Nat.reduceAdd, Option.toList, List.cons_append, List.nil_append, mW_o, mf_0, mf_80, mf_83, m_136, mf_82, m_135, mf_81, m_134]
            repeat (simp only [mu_0, mW_so, ms_136, ms_135, ms_134, show upd M 0 0 80 = M 80 from rfl, h80, nI_1, nI_clamp hk40]; try dsimp only [kx_wp, kx_step, kx_lI, kx_lL, kx_lA, kx_gl, kx_pI, kx_pL, kx_pR, kx_pA, kx_pV, kx_s1, kx_s2, kx_sl, kx_pre, kx_c2, kx_pl, kx_cmp, kx_oF, kx_eqN, kx_nil, kx_c1, kx_ft, kx_aI, kx_aL, kx_aR, kx_ln, Nat.reduceAdd, Option.toList, List.cons_append, List.nil_append, mW_o, mf_0, mf_80, mf_83, m_136, mf_82, m_135, mf_81, m_134])
            repeat' apply And.intro
            all_goals try (first | with_reducible assumption | (with_reducible refine ck_nzI ?_; simp; done) | (with_reducible refine ck_nzL ?_; simp; done) | (with_reducible refine vp_in_nI ?_ ?_ <;> first | omega | decide) | (with_reducible refine Nat.le_of_ble_eq_true ?_; rfl) | omega)
            · intro zc38
              with_reducible first | have ze38 := Int32.not_lt.mpr zc38 | have ze38 := Int32.not_le.mpr zc38 | have ze38 := Int32.not_le.mp zc38 | have ze38 := Int32.not_lt.mp zc38 | have ze38 := Int64.not_lt.mpr zc38 | have ze38 := Int64.not_le.mpr zc38 | have ze38 := Int64.not_le.mp zc38 | have ze38 := Int64.not_lt.mp zc38 | have ze38 := Decidable.not_not.mp zc38 | have ze38 := zc38
              refine hB bX11_lawful_65 _ _ _ _ _ _ _ kX11_lawful_65 ?_
              dsimp only [bX11_lawful_65, kx_wp, kx_step, kx_lI, kx_lL, kx_lA, kx_gl, kx_pI, kx_pL, kx_pR, kx_pA, kx_pV, kx_s1, kx_s2, kx_sl, kx_pre, kx_c2, kx_pl, kx_cmp, kx_oF, kx_eqN, kx_nil, kx_c1, kx_ft, kx_aI, kx_aL, kx_aR, kx_ln, Nat.reduceAdd, Option.toList, List.cons_append, List.nil_append, mW_o, mf_0, mf_80, mf_83, m_136, mf_82, m_135, mf_81, m_134]
              repeat (simp only [mu_0, mW_so, ms_136, ms_135, ms_134, show upd M 0 0 80 = M 80 from rfl, h80, nI_1, nI_clamp hk40]; try dsimp only [kx_wp, kx_step, kx_lI, kx_lL, kx_lA, kx_gl, kx_pI, kx_pL, kx_pR, kx_pA, kx_pV, kx_s1, kx_s2, kx_sl, kx_pre, kx_c2, kx_pl, kx_cmp, kx_oF, kx_eqN, kx_nil, kx_c1, kx_ft, kx_aI, kx_aL, kx_aR, kx_ln, Nat.reduceAdd, Option.toList, List.cons_append, List.nil_append, mW_o, mf_0, mf_80, mf_83, m_136, mf_82, m_135, mf_81, m_134])
              repeat' apply And.intro
              all_goals try (first | with_reducible assumption | (with_reducible refine ck_nzI ?_; simp; done) | (with_reducible refine ck_nzL ?_; simp; done) | (with_reducible refine vp_in_nI ?_ ?_ <;> first | omega | decide) | (with_reducible refine Nat.le_of_ble_eq_true ?_; rfl) | omega)
              have ze := ih (k + 1) (by omega)
              simp only [ck_lw, hb, zc16, ze16, zc27, ze27, zc38, ze38, ↓reduceIte, ck_o] at ze
              exact ze
            · intro zc38
              with_reducible first | have ze38 := Int32.not_lt.mpr zc38 | have ze38 := Int32.not_le.mpr zc38 | have ze38 := Int32.not_le.mp zc38 | have ze38 := Int32.not_lt.mp zc38 | have ze38 := Int64.not_lt.mpr zc38 | have ze38 := Int64.not_le.mpr zc38 | have ze38 := Int64.not_le.mp zc38 | have ze38 := Int64.not_lt.mp zc38 | have ze38 := Decidable.not_not.mp zc38 | have ze38 := zc38
              refine hB bX11_lawful_41 _ _ _ _ _ _ _ kX11_lawful_41 ?_
              dsimp only [bX11_lawful_41, kx_wp, kx_step, kx_lI, kx_lL, kx_lA, kx_gl, kx_pI, kx_pL, kx_pR, kx_pA, kx_pV, kx_s1, kx_s2, kx_sl, kx_pre, kx_c2, kx_pl, kx_cmp, kx_oF, kx_eqN, kx_nil, kx_c1, kx_ft, kx_aI, kx_aL, kx_aR, kx_ln, Nat.reduceAdd, Option.toList, List.cons_append, List.nil_append, mW_o, mf_0, mf_80, mf_83, m_136, mf_82, m_135, mf_81, m_134]
              repeat (simp only [mu_0, mW_so, ms_136, ms_135, ms_134, show upd M 0 0 80 = M 80 from rfl, h80, nI_1, nI_clamp hk40]; try dsimp only [kx_wp, kx_step, kx_lI, kx_lL, kx_lA, kx_gl, kx_pI, kx_pL, kx_pR, kx_pA, kx_pV, kx_s1, kx_s2, kx_sl, kx_pre, kx_c2, kx_pl, kx_cmp, kx_oF, kx_eqN, kx_nil, kx_c1, kx_ft, kx_aI, kx_aL, kx_aR, kx_ln, Nat.reduceAdd, Option.toList, List.cons_append, List.nil_append, mW_o, mf_0, mf_80, mf_83, m_136, mf_82, m_135, mf_81, m_134])
              repeat' apply And.intro
              all_goals try (first | with_reducible assumption | (with_reducible refine ck_nzI ?_; simp; done) | (with_reducible refine ck_nzL ?_; simp; done) | (with_reducible refine vp_in_nI ?_ ?_ <;> first | omega | decide) | (with_reducible refine Nat.le_of_ble_eq_true ?_; rfl) | omega)
              · intro zc43
                with_reducible first | have ze43 := Int32.not_lt.mpr zc43 | have ze43 := Int32.not_le.mpr zc43 | have ze43 := Int32.not_le.mp zc43 | have ze43 := Int32.not_lt.mp zc43 | have ze43 := Int64.not_lt.mpr zc43 | have ze43 := Int64.not_le.mpr zc43 | have ze43 := Int64.not_le.mp zc43 | have ze43 := Int64.not_lt.mp zc43 | have ze43 := Decidable.not_not.mp zc43 | have ze43 := zc43
                refine hB bX11_lawful_62 _ _ _ _ _ _ _ kX11_lawful_62 ?_
                dsimp only [bX11_lawful_62, kx_wp, kx_step, kx_lI, kx_lL, kx_lA, kx_gl, kx_pI, kx_pL, kx_pR, kx_pA, kx_pV, kx_s1, kx_s2, kx_sl, kx_pre, kx_c2, kx_pl, kx_cmp, kx_oF, kx_eqN, kx_nil, kx_c1, kx_ft, kx_aI, kx_aL, kx_aR, kx_ln, Nat.reduceAdd, Option.toList, List.cons_append, List.nil_append, mW_o, mf_0, mf_80, mf_83, m_136, mf_82, m_135, mf_81, m_134]
                repeat (simp only [mu_0, mW_so, ms_136, ms_135, ms_134, show upd M 0 0 80 = M 80 from rfl, h80, nI_1, nI_clamp hk40]; try dsimp only [kx_wp, kx_step, kx_lI, kx_lL, kx_lA, kx_gl, kx_pI, kx_pL, kx_pR, kx_pA, kx_pV, kx_s1, kx_s2, kx_sl, kx_pre, kx_c2, kx_pl, kx_cmp, kx_oF, kx_eqN, kx_nil, kx_c1, kx_ft, kx_aI, kx_aL, kx_aR, kx_ln, Nat.reduceAdd, Option.toList, List.cons_append, List.nil_append, mW_o, mf_0, mf_80, mf_83, m_136, mf_82, m_135, mf_81, m_134])
                repeat' apply And.intro
                all_goals try (first | with_reducible assumption | (with_reducible refine ck_nzI ?_; simp; done) | (with_reducible refine ck_nzL ?_; simp; done) | (with_reducible refine vp_in_nI ?_ ?_ <;> first | omega | decide) | (with_reducible refine Nat.le_of_ble_eq_true ?_; rfl) | omega)
                refine hB bX11_lawful_65 _ _ _ _ _ _ _ kX11_lawful_65 ?_
                dsimp only [bX11_lawful_65, kx_wp, kx_step, kx_lI, kx_lL, kx_lA, kx_gl, kx_pI, kx_pL, kx_pR, kx_pA, kx_pV, kx_s1, kx_s2, kx_sl, kx_pre, kx_c2, kx_pl, kx_cmp, kx_oF, kx_eqN, kx_nil, kx_c1, kx_ft, kx_aI, kx_aL, kx_aR, kx_ln, Nat.reduceAdd, Option.toList, List.cons_append, List.nil_append, mW_o, mf_0, mf_80, mf_83, m_136, mf_82, m_135, mf_81, m_134]
                repeat (simp only [mu_0, mW_so, ms_136, ms_135, ms_134, show upd M 0 0 80 = M 80 from rfl, h80, nI_1, nI_clamp hk40]; try dsimp only [kx_wp, kx_step, kx_lI, kx_lL, kx_lA, kx_gl, kx_pI, kx_pL, kx_pR, kx_pA, kx_pV, kx_s1, kx_s2, kx_sl, kx_pre, kx_c2, kx_pl, kx_cmp, kx_oF, kx_eqN, kx_nil, kx_c1, kx_ft, kx_aI, kx_aL, kx_aR, kx_ln, Nat.reduceAdd, Option.toList, List.cons_append, List.nil_append, mW_o, mf_0, mf_80, mf_83, m_136, mf_82, m_135, mf_81, m_134])
                repeat' apply And.intro
                all_goals try (first | with_reducible assumption | (with_reducible refine ck_nzI ?_; simp; done) | (with_reducible refine ck_nzL ?_; simp; done) | (with_reducible refine vp_in_nI ?_ ?_ <;> first | omega | decide) | (with_reducible refine Nat.le_of_ble_eq_true ?_; rfl) | omega)
                have ze := ih (k + 1) (by omega)
                simp only [ck_lw, hb, zc16, ze16, zc27, ze27, zc38, ze38, eq_true ze43, ↓reduceIte, ck_o] at ze
                exact ze
              · intro zc43
                first | exact absurd rfl zc43 | exact absurd zc43 (by decide) | exact absurd (by decide) zc43 | (exfalso; first | exact absurd zc43 (ck_jm hj40) | exact absurd (Decidable.not_not.mp zc73) (ck_jm hj40) | exact absurd zc16 (by first | (simp only [nI_leI (show n < 2 ^ 31 by omega) hk40]; omega) | (simp only [nI_leI (show n < 2 ^ 31 by omega) hk40, Decidable.not_not]; omega))) | (exfalso; simp_all; done)
      · have hj := ck_lw_lt k j hb
        have hj40 : j < 2 ^ 31 := by omega
        dsimp only [ck_o]
        refine hB bX11_lawful_10 _ _ _ _ _ _ _ kX11_lawful_10 ?_
        dsimp only [bX11_lawful_10, kx_wp, kx_step, kx_lI, kx_lL, kx_lA, kx_gl, kx_pI, kx_pL, kx_pR, kx_pA, kx_pV, kx_s1, kx_s2, kx_sl, kx_pre, kx_c2, kx_pl, kx_cmp, kx_oF, kx_eqN, kx_nil, kx_c1, kx_ft, kx_aI, kx_aL, kx_aR, kx_ln, Nat.reduceAdd, Option.toList, List.cons_append, List.nil_append, mW_o, mf_0, mf_80, mf_83, m_136, mf_82, m_135, mf_81, m_134]
        repeat (simp only [mu_0, mW_so, ms_136, ms_135, ms_134, show upd M 0 0 80 = M 80 from rfl, h80, nI_1, nI_clamp hk40, nI_clamp hj40]; try dsimp only [kx_wp, kx_step, kx_lI, kx_lL, kx_lA, kx_gl, kx_pI, kx_pL, kx_pR, kx_pA, kx_pV, kx_s1, kx_s2, kx_sl, kx_pre, kx_c2, kx_pl, kx_cmp, kx_oF, kx_eqN, kx_nil, kx_c1, kx_ft, kx_aI, kx_aL, kx_aR, kx_ln, Nat.reduceAdd, Option.toList, List.cons_append, List.nil_append, mW_o, mf_0, mf_80, mf_83, m_136, mf_82, m_135, mf_81, m_134])
        repeat' apply And.intro
        all_goals try (first | with_reducible assumption | (with_reducible refine ck_nzI ?_; simp; done) | (with_reducible refine ck_nzL ?_; simp; done) | (with_reducible refine vp_in_nI ?_ ?_ <;> first | omega | decide) | (with_reducible refine Nat.le_of_ble_eq_true ?_; rfl) | omega)
        · intro zc16
          first | exact absurd rfl zc16 | exact absurd zc16 (by decide) | exact absurd (by decide) zc16 | (exfalso; first | exact absurd zc43 (ck_jm hj40) | exact absurd (Decidable.not_not.mp zc73) (ck_jm hj40) | exact absurd zc16 (by first | (simp only [nI_leI (show n < 2 ^ 31 by omega) hk40]; omega) | (simp only [nI_leI (show n < 2 ^ 31 by omega) hk40, Decidable.not_not]; omega))) | (exfalso; simp_all; done)
        · intro zc16
          with_reducible first | have ze16 := Int32.not_lt.mpr zc16 | have ze16 := Int32.not_le.mpr zc16 | have ze16 := Int32.not_le.mp zc16 | have ze16 := Int32.not_lt.mp zc16 | have ze16 := Int64.not_lt.mpr zc16 | have ze16 := Int64.not_le.mpr zc16 | have ze16 := Int64.not_le.mp zc16 | have ze16 := Int64.not_lt.mp zc16 | have ze16 := Decidable.not_not.mp zc16 | have ze16 := zc16
          refine hB bX11_lawful_19 _ _ _ _ _ _ _ kX11_lawful_19 ?_
          dsimp only [bX11_lawful_19, kx_wp, kx_step, kx_lI, kx_lL, kx_lA, kx_gl, kx_pI, kx_pL, kx_pR, kx_pA, kx_pV, kx_s1, kx_s2, kx_sl, kx_pre, kx_c2, kx_pl, kx_cmp, kx_oF, kx_eqN, kx_nil, kx_c1, kx_ft, kx_aI, kx_aL, kx_aR, kx_ln, Nat.reduceAdd, Option.toList, List.cons_append, List.nil_append, mW_o, mf_0, mf_80, mf_83, m_136, mf_82, m_135, mf_81, m_134]
          repeat (simp only [mu_0, mW_so, ms_136, ms_135, ms_134, show upd M 0 0 80 = M 80 from rfl, h80, nI_1, nI_clamp hk40, nI_clamp hj40]; try dsimp only [kx_wp, kx_step, kx_lI, kx_lL, kx_lA, kx_gl, kx_pI, kx_pL, kx_pR, kx_pA, kx_pV, kx_s1, kx_s2, kx_sl, kx_pre, kx_c2, kx_pl, kx_cmp, kx_oF, kx_eqN, kx_nil, kx_c1, kx_ft, kx_aI, kx_aL, kx_aR, kx_ln, Nat.reduceAdd, Option.toList, List.cons_append, List.nil_append, mW_o, mf_0, mf_80, mf_83, m_136, mf_82, m_135, mf_81, m_134])
          repeat' apply And.intro
          all_goals try (first | with_reducible assumption | (with_reducible refine ck_nzI ?_; simp; done) | (with_reducible refine ck_nzL ?_; simp; done) | (with_reducible refine vp_in_nI ?_ ?_ <;> first | omega | decide) | (with_reducible refine Nat.le_of_ble_eq_true ?_; rfl) | omega)
          · intro zc27
            with_reducible first | have ze27 := Int32.not_lt.mpr zc27 | have ze27 := Int32.not_le.mpr zc27 | have ze27 := Int32.not_le.mp zc27 | have ze27 := Int32.not_lt.mp zc27 | have ze27 := Int64.not_lt.mpr zc27 | have ze27 := Int64.not_le.mpr zc27 | have ze27 := Int64.not_le.mp zc27 | have ze27 := Int64.not_lt.mp zc27 | have ze27 := Decidable.not_not.mp zc27 | have ze27 := zc27
            refine hB bX11_lawful_65 _ _ _ _ _ _ _ kX11_lawful_65 ?_
            dsimp only [bX11_lawful_65, kx_wp, kx_step, kx_lI, kx_lL, kx_lA, kx_gl, kx_pI, kx_pL, kx_pR, kx_pA, kx_pV, kx_s1, kx_s2, kx_sl, kx_pre, kx_c2, kx_pl, kx_cmp, kx_oF, kx_eqN, kx_nil, kx_c1, kx_ft, kx_aI, kx_aL, kx_aR, kx_ln, Nat.reduceAdd, Option.toList, List.cons_append, List.nil_append, mW_o, mf_0, mf_80, mf_83, m_136, mf_82, m_135, mf_81, m_134]
            repeat (simp only [mu_0, mW_so, ms_136, ms_135, ms_134, show upd M 0 0 80 = M 80 from rfl, h80, nI_1, nI_clamp hk40, nI_clamp hj40]; try dsimp only [kx_wp, kx_step, kx_lI, kx_lL, kx_lA, kx_gl, kx_pI, kx_pL, kx_pR, kx_pA, kx_pV, kx_s1, kx_s2, kx_sl, kx_pre, kx_c2, kx_pl, kx_cmp, kx_oF, kx_eqN, kx_nil, kx_c1, kx_ft, kx_aI, kx_aL, kx_aR, kx_ln, Nat.reduceAdd, Option.toList, List.cons_append, List.nil_append, mW_o, mf_0, mf_80, mf_83, m_136, mf_82, m_135, mf_81, m_134])
            repeat' apply And.intro
            all_goals try (first | with_reducible assumption | (with_reducible refine ck_nzI ?_; simp; done) | (with_reducible refine ck_nzL ?_; simp; done) | (with_reducible refine vp_in_nI ?_ ?_ <;> first | omega | decide) | (with_reducible refine Nat.le_of_ble_eq_true ?_; rfl) | omega)
            have ze := ih (k + 1) (by omega)
            simp only [ck_lw, hb, zc16, ze16, zc27, ze27, ↓reduceIte, ck_o] at ze
            exact ze
          · intro zc27
            with_reducible first | have ze27 := Int32.not_lt.mpr zc27 | have ze27 := Int32.not_le.mpr zc27 | have ze27 := Int32.not_le.mp zc27 | have ze27 := Int32.not_lt.mp zc27 | have ze27 := Int64.not_lt.mpr zc27 | have ze27 := Int64.not_le.mpr zc27 | have ze27 := Int64.not_le.mp zc27 | have ze27 := Int64.not_lt.mp zc27 | have ze27 := Decidable.not_not.mp zc27 | have ze27 := zc27
            refine hB bX11_lawful_30 _ _ _ _ _ _ _ kX11_lawful_30 ?_
            dsimp only [bX11_lawful_30, kx_wp, kx_step, kx_lI, kx_lL, kx_lA, kx_gl, kx_pI, kx_pL, kx_pR, kx_pA, kx_pV, kx_s1, kx_s2, kx_sl, kx_pre, kx_c2, kx_pl, kx_cmp, kx_oF, kx_eqN, kx_nil, kx_c1, kx_ft, kx_aI, kx_aL, kx_aR, kx_ln, Nat.reduceAdd, Option.toList, List.cons_append, List.nil_append, mW_o, mf_0, mf_80, mf_83, m_136, mf_82, m_135, mf_81, m_134]
            repeat (simp only [mu_0, mW_so, ms_136, ms_135, ms_134, show upd M 0 0 80 = M 80 from rfl, h80, nI_1, nI_clamp hk40, nI_clamp hj40]; try dsimp only [kx_wp, kx_step, kx_lI, kx_lL, kx_lA, kx_gl, kx_pI, kx_pL, kx_pR, kx_pA, kx_pV, kx_s1, kx_s2, kx_sl, kx_pre, kx_c2, kx_pl, kx_cmp, kx_oF, kx_eqN, kx_nil, kx_c1, kx_ft, kx_aI, kx_aL, kx_aR, kx_ln, Nat.reduceAdd, Option.toList, List.cons_append, List.nil_append, mW_o, mf_0, mf_80, mf_83, m_136, mf_82, m_135, mf_81, m_134])
            repeat' apply And.intro
            all_goals try (first | with_reducible assumption | (with_reducible refine ck_nzI ?_; simp; done) | (with_reducible refine ck_nzL ?_; simp; done) | (with_reducible refine vp_in_nI ?_ ?_ <;> first | omega | decide) | (with_reducible refine Nat.le_of_ble_eq_true ?_; rfl) | omega)
            · intro zc38
              with_reducible first | have ze38 := Int32.not_lt.mpr zc38 | have ze38 := Int32.not_le.mpr zc38 | have ze38 := Int32.not_le.mp zc38 | have ze38 := Int32.not_lt.mp zc38 | have ze38 := Int64.not_lt.mpr zc38 | have ze38 := Int64.not_le.mpr zc38 | have ze38 := Int64.not_le.mp zc38 | have ze38 := Int64.not_lt.mp zc38 | have ze38 := Decidable.not_not.mp zc38 | have ze38 := zc38
              refine hB bX11_lawful_65 _ _ _ _ _ _ _ kX11_lawful_65 ?_
              dsimp only [bX11_lawful_65, kx_wp, kx_step, kx_lI, kx_lL, kx_lA, kx_gl, kx_pI, kx_pL, kx_pR, kx_pA, kx_pV, kx_s1, kx_s2, kx_sl, kx_pre, kx_c2, kx_pl, kx_cmp, kx_oF, kx_eqN, kx_nil, kx_c1, kx_ft, kx_aI, kx_aL, kx_aR, kx_ln, Nat.reduceAdd, Option.toList, List.cons_append, List.nil_append, mW_o, mf_0, mf_80, mf_83, m_136, mf_82, m_135, mf_81, m_134]
              repeat (simp only [mu_0, mW_so, ms_136, ms_135, ms_134, show upd M 0 0 80 = M 80 from rfl, h80, nI_1, nI_clamp hk40, nI_clamp hj40]; try dsimp only [kx_wp, kx_step, kx_lI, kx_lL, kx_lA, kx_gl, kx_pI, kx_pL, kx_pR, kx_pA, kx_pV, kx_s1, kx_s2, kx_sl, kx_pre, kx_c2, kx_pl, kx_cmp, kx_oF, kx_eqN, kx_nil, kx_c1, kx_ft, kx_aI, kx_aL, kx_aR, kx_ln, Nat.reduceAdd, Option.toList, List.cons_append, List.nil_append, mW_o, mf_0, mf_80, mf_83, m_136, mf_82, m_135, mf_81, m_134])
              repeat' apply And.intro
              all_goals try (first | with_reducible assumption | (with_reducible refine ck_nzI ?_; simp; done) | (with_reducible refine ck_nzL ?_; simp; done) | (with_reducible refine vp_in_nI ?_ ?_ <;> first | omega | decide) | (with_reducible refine Nat.le_of_ble_eq_true ?_; rfl) | omega)
              have ze := ih (k + 1) (by omega)
              simp only [ck_lw, hb, zc16, ze16, zc27, ze27, zc38, ze38, ↓reduceIte, ck_o] at ze
              exact ze
            · intro zc38
              with_reducible first | have ze38 := Int32.not_lt.mpr zc38 | have ze38 := Int32.not_le.mpr zc38 | have ze38 := Int32.not_le.mp zc38 | have ze38 := Int32.not_lt.mp zc38 | have ze38 := Int64.not_lt.mpr zc38 | have ze38 := Int64.not_le.mpr zc38 | have ze38 := Int64.not_le.mp zc38 | have ze38 := Int64.not_lt.mp zc38 | have ze38 := Decidable.not_not.mp zc38 | have ze38 := zc38
              refine hB bX11_lawful_41 _ _ _ _ _ _ _ kX11_lawful_41 ?_
              dsimp only [bX11_lawful_41, kx_wp, kx_step, kx_lI, kx_lL, kx_lA, kx_gl, kx_pI, kx_pL, kx_pR, kx_pA, kx_pV, kx_s1, kx_s2, kx_sl, kx_pre, kx_c2, kx_pl, kx_cmp, kx_oF, kx_eqN, kx_nil, kx_c1, kx_ft, kx_aI, kx_aL, kx_aR, kx_ln, Nat.reduceAdd, Option.toList, List.cons_append, List.nil_append, mW_o, mf_0, mf_80, mf_83, m_136, mf_82, m_135, mf_81, m_134]
              repeat (simp only [mu_0, mW_so, ms_136, ms_135, ms_134, show upd M 0 0 80 = M 80 from rfl, h80, nI_1, nI_clamp hk40, nI_clamp hj40]; try dsimp only [kx_wp, kx_step, kx_lI, kx_lL, kx_lA, kx_gl, kx_pI, kx_pL, kx_pR, kx_pA, kx_pV, kx_s1, kx_s2, kx_sl, kx_pre, kx_c2, kx_pl, kx_cmp, kx_oF, kx_eqN, kx_nil, kx_c1, kx_ft, kx_aI, kx_aL, kx_aR, kx_ln, Nat.reduceAdd, Option.toList, List.cons_append, List.nil_append, mW_o, mf_0, mf_80, mf_83, m_136, mf_82, m_135, mf_81, m_134])
              repeat' apply And.intro
              all_goals try (first | with_reducible assumption | (with_reducible refine ck_nzI ?_; simp; done) | (with_reducible refine ck_nzL ?_; simp; done) | (with_reducible refine vp_in_nI ?_ ?_ <;> first | omega | decide) | (with_reducible refine Nat.le_of_ble_eq_true ?_; rfl) | omega)
              · intro zc43
                first | exact absurd rfl zc43 | exact absurd zc43 (by decide) | exact absurd (by decide) zc43 | (exfalso; first | exact absurd zc43 (ck_jm hj40) | exact absurd (Decidable.not_not.mp zc73) (ck_jm hj40) | exact absurd zc16 (by first | (simp only [nI_leI (show n < 2 ^ 31 by omega) hk40]; omega) | (simp only [nI_leI (show n < 2 ^ 31 by omega) hk40, Decidable.not_not]; omega))) | (exfalso; simp_all; done)
              · intro zc43
                with_reducible first | have ze43 := Int32.not_lt.mpr zc43 | have ze43 := Int32.not_le.mpr zc43 | have ze43 := Int32.not_le.mp zc43 | have ze43 := Int32.not_lt.mp zc43 | have ze43 := Int64.not_lt.mpr zc43 | have ze43 := Int64.not_le.mpr zc43 | have ze43 := Int64.not_le.mp zc43 | have ze43 := Int64.not_lt.mp zc43 | have ze43 := Decidable.not_not.mp zc43 | have ze43 := zc43
                refine hB bX11_lawful_46 _ _ _ _ _ _ _ kX11_lawful_46 ?_
                dsimp only [bX11_lawful_46, kx_wp, kx_step, kx_lI, kx_lL, kx_lA, kx_gl, kx_pI, kx_pL, kx_pR, kx_pA, kx_pV, kx_s1, kx_s2, kx_sl, kx_pre, kx_c2, kx_pl, kx_cmp, kx_oF, kx_eqN, kx_nil, kx_c1, kx_ft, kx_aI, kx_aL, kx_aR, kx_ln, Nat.reduceAdd, Option.toList, List.cons_append, List.nil_append, mW_o, mf_0, mf_80, mf_83, m_136, mf_82, m_135, mf_81, m_134]
                repeat (simp only [mu_0, mW_so, ms_136, ms_135, ms_134, show upd M 0 0 80 = M 80 from rfl, h80, nI_1, nI_clamp hk40, nI_clamp hj40]; try dsimp only [kx_wp, kx_step, kx_lI, kx_lL, kx_lA, kx_gl, kx_pI, kx_pL, kx_pR, kx_pA, kx_pV, kx_s1, kx_s2, kx_sl, kx_pre, kx_c2, kx_pl, kx_cmp, kx_oF, kx_eqN, kx_nil, kx_c1, kx_ft, kx_aI, kx_aL, kx_aR, kx_ln, Nat.reduceAdd, Option.toList, List.cons_append, List.nil_append, mW_o, mf_0, mf_80, mf_83, m_136, mf_82, m_135, mf_81, m_134])
                repeat' apply And.intro
                all_goals try (first | with_reducible assumption | (with_reducible refine ck_nzI ?_; simp; done) | (with_reducible refine ck_nzL ?_; simp; done) | (with_reducible refine vp_in_nI ?_ ?_ <;> first | omega | decide) | (with_reducible refine Nat.le_of_ble_eq_true ?_; rfl) | omega)
                · intro zc59
                  with_reducible first | have ze59 := Int32.not_lt.mpr zc59 | have ze59 := Int32.not_le.mpr zc59 | have ze59 := Int32.not_le.mp zc59 | have ze59 := Int32.not_lt.mp zc59 | have ze59 := Int64.not_lt.mpr zc59 | have ze59 := Int64.not_le.mpr zc59 | have ze59 := Int64.not_le.mp zc59 | have ze59 := Int64.not_lt.mp zc59 | have ze59 := Decidable.not_not.mp zc59 | have ze59 := zc59
                  refine hB bX11_lawful_65 _ _ _ _ _ _ _ kX11_lawful_65 ?_
                  dsimp only [bX11_lawful_65, kx_wp, kx_step, kx_lI, kx_lL, kx_lA, kx_gl, kx_pI, kx_pL, kx_pR, kx_pA, kx_pV, kx_s1, kx_s2, kx_sl, kx_pre, kx_c2, kx_pl, kx_cmp, kx_oF, kx_eqN, kx_nil, kx_c1, kx_ft, kx_aI, kx_aL, kx_aR, kx_ln, Nat.reduceAdd, Option.toList, List.cons_append, List.nil_append, mW_o, mf_0, mf_80, mf_83, m_136, mf_82, m_135, mf_81, m_134]
                  repeat (simp only [mu_0, mW_so, ms_136, ms_135, ms_134, show upd M 0 0 80 = M 80 from rfl, h80, nI_1, nI_clamp hk40, nI_clamp hj40]; try dsimp only [kx_wp, kx_step, kx_lI, kx_lL, kx_lA, kx_gl, kx_pI, kx_pL, kx_pR, kx_pA, kx_pV, kx_s1, kx_s2, kx_sl, kx_pre, kx_c2, kx_pl, kx_cmp, kx_oF, kx_eqN, kx_nil, kx_c1, kx_ft, kx_aI, kx_aL, kx_aR, kx_ln, Nat.reduceAdd, Option.toList, List.cons_append, List.nil_append, mW_o, mf_0, mf_80, mf_83, m_136, mf_82, m_135, mf_81, m_134])
                  repeat' apply And.intro
                  all_goals try (first | with_reducible assumption | (with_reducible refine ck_nzI ?_; simp; done) | (with_reducible refine ck_nzL ?_; simp; done) | (with_reducible refine vp_in_nI ?_ ?_ <;> first | omega | decide) | (with_reducible refine Nat.le_of_ble_eq_true ?_; rfl) | omega)
                  have ze := ih (k + 1) (by omega)
                  simp only [ck_lw, hb, zc16, ze16, zc27, ze27, zc38, ze38, ze43, zc59, ze59, ↓reduceIte, ck_o] at ze
                  exact ze
                · intro zc59
                  with_reducible first | have ze59 := Int32.not_lt.mpr zc59 | have ze59 := Int32.not_le.mpr zc59 | have ze59 := Int32.not_le.mp zc59 | have ze59 := Int32.not_lt.mp zc59 | have ze59 := Int64.not_lt.mpr zc59 | have ze59 := Int64.not_le.mpr zc59 | have ze59 := Int64.not_le.mp zc59 | have ze59 := Int64.not_lt.mp zc59 | have ze59 := Decidable.not_not.mp zc59 | have ze59 := zc59
                  refine hB bX11_lawful_62 _ _ _ _ _ _ _ kX11_lawful_62 ?_
                  dsimp only [bX11_lawful_62, kx_wp, kx_step, kx_lI, kx_lL, kx_lA, kx_gl, kx_pI, kx_pL, kx_pR, kx_pA, kx_pV, kx_s1, kx_s2, kx_sl, kx_pre, kx_c2, kx_pl, kx_cmp, kx_oF, kx_eqN, kx_nil, kx_c1, kx_ft, kx_aI, kx_aL, kx_aR, kx_ln, Nat.reduceAdd, Option.toList, List.cons_append, List.nil_append, mW_o, mf_0, mf_80, mf_83, m_136, mf_82, m_135, mf_81, m_134]
                  repeat (simp only [mu_0, mW_so, ms_136, ms_135, ms_134, show upd M 0 0 80 = M 80 from rfl, h80, nI_1, nI_clamp hk40, nI_clamp hj40]; try dsimp only [kx_wp, kx_step, kx_lI, kx_lL, kx_lA, kx_gl, kx_pI, kx_pL, kx_pR, kx_pA, kx_pV, kx_s1, kx_s2, kx_sl, kx_pre, kx_c2, kx_pl, kx_cmp, kx_oF, kx_eqN, kx_nil, kx_c1, kx_ft, kx_aI, kx_aL, kx_aR, kx_ln, Nat.reduceAdd, Option.toList, List.cons_append, List.nil_append, mW_o, mf_0, mf_80, mf_83, m_136, mf_82, m_135, mf_81, m_134])
                  repeat' apply And.intro
                  all_goals try (first | with_reducible assumption | (with_reducible refine ck_nzI ?_; simp; done) | (with_reducible refine ck_nzL ?_; simp; done) | (with_reducible refine vp_in_nI ?_ ?_ <;> first | omega | decide) | (with_reducible refine Nat.le_of_ble_eq_true ?_; rfl) | omega)
                  refine hB bX11_lawful_65 _ _ _ _ _ _ _ kX11_lawful_65 ?_
                  dsimp only [bX11_lawful_65, kx_wp, kx_step, kx_lI, kx_lL, kx_lA, kx_gl, kx_pI, kx_pL, kx_pR, kx_pA, kx_pV, kx_s1, kx_s2, kx_sl, kx_pre, kx_c2, kx_pl, kx_cmp, kx_oF, kx_eqN, kx_nil, kx_c1, kx_ft, kx_aI, kx_aL, kx_aR, kx_ln, Nat.reduceAdd, Option.toList, List.cons_append, List.nil_append, mW_o, mf_0, mf_80, mf_83, m_136, mf_82, m_135, mf_81, m_134]
                  repeat (simp only [mu_0, mW_so, ms_136, ms_135, ms_134, show upd M 0 0 80 = M 80 from rfl, h80, nI_1, nI_clamp hk40, nI_clamp hj40]; try dsimp only [kx_wp, kx_step, kx_lI, kx_lL, kx_lA, kx_gl, kx_pI, kx_pL, kx_pR, kx_pA, kx_pV, kx_s1, kx_s2, kx_sl, kx_pre, kx_c2, kx_pl, kx_cmp, kx_oF, kx_eqN, kx_nil, kx_c1, kx_ft, kx_aI, kx_aL, kx_aR, kx_ln, Nat.reduceAdd, Option.toList, List.cons_append, List.nil_append, mW_o, mf_0, mf_80, mf_83, m_136, mf_82, m_135, mf_81, m_134])
                  repeat' apply And.intro
                  all_goals try (first | with_reducible assumption | (with_reducible refine ck_nzI ?_; simp; done) | (with_reducible refine ck_nzL ?_; simp; done) | (with_reducible refine vp_in_nI ?_ ?_ <;> first | omega | decide) | (with_reducible refine Nat.le_of_ble_eq_true ?_; rfl) | omega)
                  have ze := ih (k + 1) (by omega)
                  simp only [ck_lw, hb, zc16, ze16, zc27, ze27, zc38, ze38, ze43, zc59, ze59, ↓reduceIte, ck_o] at ze
                  exact ze
  refine hB bX11_lawful_0 _ _ _ _ _ _ _ kX11_lawful_0 ?_
  dsimp only [bX11_lawful_0, kx_wp, kx_step, kx_lI, kx_lL, kx_lA, kx_gl, kx_pI, kx_pL, kx_pR, kx_pA, kx_pV, kx_s1, kx_s2, kx_sl, kx_pre, kx_c2, kx_pl, kx_cmp, kx_oF, kx_eqN, kx_nil, kx_c1, kx_ft, kx_aI, kx_aL, kx_aR, kx_ln, Nat.reduceAdd, Option.toList, List.cons_append, List.nil_append, mW_o, mf_0, mf_80, mf_83, m_136, mf_82, m_135, mf_81, m_134]
  repeat (simp only [mu_0, mW_so, ms_136, ms_135, ms_134, show upd M 0 0 80 = M 80 from rfl, h80, nI_1]; try dsimp only [kx_wp, kx_step, kx_lI, kx_lL, kx_lA, kx_gl, kx_pI, kx_pL, kx_pR, kx_pA, kx_pV, kx_s1, kx_s2, kx_sl, kx_pre, kx_c2, kx_pl, kx_cmp, kx_oF, kx_eqN, kx_nil, kx_c1, kx_ft, kx_aI, kx_aL, kx_aR, kx_ln, Nat.reduceAdd, Option.toList, List.cons_append, List.nil_append, mW_o, mf_0, mf_80, mf_83, m_136, mf_82, m_135, mf_81, m_134])
  repeat' apply And.intro
  all_goals try (first | with_reducible assumption | (with_reducible refine ck_nzI ?_; simp; done) | (with_reducible refine ck_nzL ?_; simp; done) | (with_reducible refine vp_in_nI ?_ ?_ <;> first | omega | decide) | (with_reducible refine Nat.le_of_ble_eq_true ?_; rfl) | omega)
  exact loop10 n 0 (by omega)


theorem kz_drop {l : List Int32} {j : Nat} (h : j < l.length) : l.drop j = l.getD j 0 :: l.drop (j + 1) := by
  rw [List.drop_eq_getElem_cons h, List.getD_eq_getElem?_getD, List.getElem?_eq_getElem h]
  rfl
def cx_tw (T : Nat → Int32) (n a : Nat) (F : Nat → Int32) : Nat → Int32 := upd (upd (upd (upd F 6 (nI a)) 2 (nI (ck_ps T n a))) 7 (nI (ck_ps T n a))) 2 (nI (ck_sk T n (ck_ps T n a)))
def cx_eqs (T : Nat → Int32) : Nat → List Int32 → Bool
  | _, [] => true
  | b, c :: r => decide (c = T b) && cx_eqs T (b + 1) r
def cx_is (T : Nat → Int32) (b e i : Nat) : Bool := decide ((kz_by i).length = e - b) && cx_eqs T b (kz_by i)
def cx_dgf (T : Nat → Int32) : Nat → Nat → Int32 → Int32 × Nat
  | 0, a, v => (v, a)
  | f + 1, a, v => if 48 ≤ T a ∧ T a ≤ 57 then cx_dgf T f (a + 1) (cj_min 100000 (10 * v + T a - 48)) else (v, a)
def cx_nv (T : Nat → Int32) (n : Nat) (lo hi : Int32) (a : Nat) : Int32 := if lo ≤ (cx_dgf T (n - a) a 0).1 ∧ (cx_dgf T (n - a) a 0).1 ≤ hi then (cx_dgf T (n - a) a 0).1 else 0
def cx_nF (T : Nat → Int32) (n : Nat) (lo hi : Int32) (a : Nat) (F : Nat → Int32) : Nat → Int32 := if lo ≤ (cx_dgf T (n - a) a 0).1 ∧ (cx_dgf T (n - a) a 0).1 ≤ hi then upd (upd F 8 (nI a)) 2 (nI (ck_sk T n (cx_dgf T (n - a) a 0).2)) else cx_rf 2 (nI a) (upd (upd F 8 (nI a)) 2 (nI (ck_sk T n (cx_dgf T (n - a) a 0).2)))
def bX8_takeWord_0 : List kx_O := [(.aload_n 0, 0, 0, 0, .null), (.aload_n 0, 0, 0, 0, .null), (.getfield 28, 8, 2, 0, .null), (.putfield 62, 8, 6, 0, .null)]
theorem kX8_takeWord_0 : kx_oks kxL_X8 false cX8_takeWord 0 bX8_takeWord_0 = true := by decide +kernel
def bX8_takeWord_8 : List kx_O := [(.aload_n 0, 0, 0, 0, .null), (.getfield 28, 8, 2, 0, .null), (.aload_n 0, 0, 0, 0, .null), (.getfield 25, 8, 1, 0, .null), (.if_icmp .ge 44, 60, 0, 0, .null)]
theorem kX8_takeWord_8 : kx_oks kxL_X8 false cX8_takeWord 8 bX8_takeWord_8 = true := by decide +kernel
def bX8_takeWord_19 : List kx_O := [(.aload_n 0, 0, 0, 0, .null), (.getfield 15, 8, 0, 0, .null), (.aload_n 0, 0, 0, 0, .null), (.getfield 28, 8, 2, 0, .null), (.iaload, 0, 0, 0, .null), (.bipush 97, 0, 0, 0, .int 97), (.if_icmp .lt 30, 60, 0, 0, .null)]
theorem kX8_takeWord_19 : kx_oks kxL_X8 false cX8_takeWord 19 bX8_takeWord_19 = true := by decide +kernel
def bX8_takeWord_33 : List kx_O := [(.aload_n 0, 0, 0, 0, .null), (.getfield 15, 8, 0, 0, .null), (.aload_n 0, 0, 0, 0, .null), (.getfield 28, 8, 2, 0, .null), (.iaload, 0, 0, 0, .null), (.bipush 122, 0, 0, 0, .int 122), (.if_icmp .gt 16, 60, 0, 0, .null)]
theorem kX8_takeWord_33 : kx_oks kxL_X8 false cX8_takeWord 33 bX8_takeWord_33 = true := by decide +kernel
def bX8_takeWord_47 : List kx_O := [(.aload_n 0, 0, 0, 0, .null), (.dup, 0, 0, 0, .null), (.getfield 28, 8, 2, 0, .null), (.iconst 1, 0, 0, 0, .int 1), (.iadd, 0, 0, 0, .null), (.putfield 28, 8, 2, 0, .null), (.goto (-49), 8, 0, 0, .null)]
theorem kX8_takeWord_47 : kx_oks kxL_X8 false cX8_takeWord 47 bX8_takeWord_47 = true := by decide +kernel
def bX8_takeWord_60 : List kx_O := [(.aload_n 0, 0, 0, 0, .null), (.aload_n 0, 0, 0, 0, .null), (.getfield 28, 8, 2, 0, .null), (.putfield 65, 8, 7, 0, .null), (.aload_n 0, 0, 0, 0, .null), (.iconst 0, 0, 0, 0, .int 0)]
theorem kX8_takeWord_60 : kx_oks kxL_X8 false cX8_takeWord 60 bX8_takeWord_60 = true := by decide +kernel
def bX8_takeWord_73 : List kx_O := [(.return_, 0, 0, 0, .null)]
theorem kX8_takeWord_73 : kx_oks kxL_X8 false cX8_takeWord 73 bX8_takeWord_73 = true := by decide +kernel
theorem dX8_takeWord_70 : decode cX8_takeWord 70 = .ok (.invokevirtual 46, 3) := by decide +kernel
set_option maxRecDepth 100000 in
set_option maxHeartbeats 4000000 in
theorem ct_X8_takeWord (l : Launch) (G : kx_G) {P : kx_P} {sz : Nat} {F T : Nat → Int32} {x : Value} (hT : P 67 = kI 0 400 T) {n a : Nat} (h1 : F 1 = nI n) (hn : n ≤ 400) (h2 : F 2 = nI a) (ha : a ≤ n)  : kx_M l G sX8_takeWord 2 0 0 [.ref 68] (cx_8 P x F) sz none (cx_8 P x (cx_tw T n a F)) sz := by
  refine kx_mk kx_tab kxLok_X8 (ini := false) [some (.ref 68)] ⟨by decide, rfl, by decide, by decide⟩ (rfl) rfl rfl (fun g hB hC => ?_)
  have loop8 : ∀ (n9 : Nat) (b : Nat), b + n9 = n → ck_psf T n9 b = ck_ps T n a → g 8 [some (.ref 68)] [] (cx_8 P x (upd (upd F 6 (nI a)) 2 (nI b))) sz 0 0 := by
    intro n9
    induction n9 with
    | zero =>
      intro b hb he
      refine hB bX8_takeWord_8 _ _ _ _ _ _ _ kX8_takeWord_8 ?_
      dsimp only [bX8_takeWord_8, kx_wp, kx_step, kx_lI, kx_lL, kx_lA, kx_gl, kx_pI, kx_pL, kx_pR, kx_pA, kx_pV, kx_s1, kx_s2, kx_sl, kx_pre, kx_c2, kx_pl, kx_cmp, kx_oF, kx_eqN, kx_nil, kx_c1, kx_ft, kx_aI, kx_aL, kx_aR, kx_ln, Nat.reduceAdd, Option.toList, List.cons_append, List.nil_append, cf8_2, cf8_6, cf8_1, cf8_0, cf8_7]
      repeat (simp only [pk_us, pk_un, kz_uu, ne_eq, Nat.reduceEqDiff, not_false_eq_true, nI_1, cx_8s, cx_8ss, cx_8o, cx_8n (show ¬ (67:Nat) = 68 by decide), h1, hT, cp8_6, cp8_2, cp8_7, ks_eq, ks_ss, nI_clamp (show b < 2 ^ 31 by omega)]; try dsimp only [kx_wp, kx_step, kx_lI, kx_lL, kx_lA, kx_gl, kx_pI, kx_pL, kx_pR, kx_pA, kx_pV, kx_s1, kx_s2, kx_sl, kx_pre, kx_c2, kx_pl, kx_cmp, kx_oF, kx_eqN, kx_nil, kx_c1, kx_ft, kx_aI, kx_aL, kx_aR, kx_ln, Nat.reduceAdd, Option.toList, List.cons_append, List.nil_append, cf8_2, cf8_6, cf8_1, cf8_0, cf8_7])
      repeat' apply And.intro
      all_goals try (first | with_reducible assumption | (with_reducible refine ck_nzI ?_; simp; done) | (with_reducible refine ck_nzL ?_; simp; done) | (with_reducible refine vp_in_nI ?_ ?_ <;> first | omega | decide) | (with_reducible refine Nat.le_of_ble_eq_true ?_; rfl) | omega | exact Or.inl trivial | exact Or.inr trivial | exact Or.inl rfl | exact Or.inr rfl)
      · intro zc16
        with_reducible first | have ze16 := Int32.not_lt.mpr zc16 | have ze16 := zc16
        have zq : ck_ps T n a = b := (by first | exact he.symm | (rw [if_neg (fun q => ze30 q.1)] at he2; exact he2.symm) | (rw [if_neg (fun q => ze44 q.2)] at he2; exact he2.symm))
        refine hB bX8_takeWord_60 _ _ _ _ _ _ _ kX8_takeWord_60 ?_
        dsimp only [bX8_takeWord_60, kx_wp, kx_step, kx_lI, kx_lL, kx_lA, kx_gl, kx_pI, kx_pL, kx_pR, kx_pA, kx_pV, kx_s1, kx_s2, kx_sl, kx_pre, kx_c2, kx_pl, kx_cmp, kx_oF, kx_eqN, kx_nil, kx_c1, kx_ft, kx_aI, kx_aL, kx_aR, kx_ln, Nat.reduceAdd, Option.toList, List.cons_append, List.nil_append, cf8_2, cf8_6, cf8_1, cf8_0, cf8_7]
        repeat (simp only [pk_us, pk_un, kz_uu, ne_eq, Nat.reduceEqDiff, not_false_eq_true, nI_1, cx_8s, cx_8ss, cx_8o, cx_8n (show ¬ (67:Nat) = 68 by decide), h1, hT, cp8_6, cp8_2, cp8_7, ks_eq, ks_ss, nI_clamp (show b < 2 ^ 31 by omega)]; try dsimp only [kx_wp, kx_step, kx_lI, kx_lL, kx_lA, kx_gl, kx_pI, kx_pL, kx_pR, kx_pA, kx_pV, kx_s1, kx_s2, kx_sl, kx_pre, kx_c2, kx_pl, kx_cmp, kx_oF, kx_eqN, kx_nil, kx_c1, kx_ft, kx_aI, kx_aL, kx_aR, kx_ln, Nat.reduceAdd, Option.toList, List.cons_append, List.nil_append, cf8_2, cf8_6, cf8_1, cf8_0, cf8_7])
        repeat' apply And.intro
        all_goals try (first | with_reducible assumption | (with_reducible refine ck_nzI ?_; simp; done) | (with_reducible refine ck_nzL ?_; simp; done) | (with_reducible refine vp_in_nI ?_ ?_ <;> first | omega | decide) | (with_reducible refine Nat.le_of_ble_eq_true ?_; rfl) | omega | exact Or.inl trivial | exact Or.inr trivial | exact Or.inl rfl | exact Or.inr rfl)
        refine hC.1 46 _ _ _ _ _ _ _ 8 _ _ _ _ _ _ _ _ _ _ _ _ lX8_46 (ct_X8_skip0 l G (F := upd (upd (upd F 6 (nI a)) 2 (nI b)) 7 (nI b)) (x := x) hT (n := n) (a := b) (by simp only [pk_un, ne_eq, Nat.reduceEqDiff, not_false_eq_true]; exact h1) hn (by simp only [pk_us, pk_un, ne_eq, Nat.reduceEqDiff, not_false_eq_true]) (by omega)) ⟨by decide, rfl⟩ (cx_8o) rfl rfl (Nat.le_of_ble_eq_true rfl) (by first | decide | omega) (by decide) (by omega) (by omega) dX8_takeWord_70 ?_
        refine hB bX8_takeWord_73 _ _ _ _ _ _ _ kX8_takeWord_73 ?_
        dsimp only [bX8_takeWord_73, kx_wp, kx_step, kx_lI, kx_lL, kx_lA, kx_gl, kx_pI, kx_pL, kx_pR, kx_pA, kx_pV, kx_s1, kx_s2, kx_sl, kx_pre, kx_c2, kx_pl, kx_cmp, kx_oF, kx_eqN, kx_nil, kx_c1, kx_ft, kx_aI, kx_aL, kx_aR, kx_ln, Nat.reduceAdd, Option.toList, List.cons_append, List.nil_append, cf8_2, cf8_6, cf8_1, cf8_0, cf8_7]
        repeat (simp only [pk_us, pk_un, kz_uu, ne_eq, Nat.reduceEqDiff, not_false_eq_true, nI_1, cx_8s, cx_8ss, cx_8o, cx_8n (show ¬ (67:Nat) = 68 by decide), h1, hT, cp8_6, cp8_2, cp8_7, ks_eq, ks_ss, nI_clamp (show b < 2 ^ 31 by omega)]; try dsimp only [kx_wp, kx_step, kx_lI, kx_lL, kx_lA, kx_gl, kx_pI, kx_pL, kx_pR, kx_pA, kx_pV, kx_s1, kx_s2, kx_sl, kx_pre, kx_c2, kx_pl, kx_cmp, kx_oF, kx_eqN, kx_nil, kx_c1, kx_ft, kx_aI, kx_aL, kx_aR, kx_ln, Nat.reduceAdd, Option.toList, List.cons_append, List.nil_append, cf8_2, cf8_6, cf8_1, cf8_0, cf8_7])
        all_goals (repeat' apply And.intro)
        all_goals first | exact True.intro | rfl | (unfold cx_tw; rw [zq])
      · intro zc16
        first | exact absurd rfl zc16 | exact absurd zc16 (by decide) | exact absurd (by decide) zc16 | (exfalso; first | exact absurd ((nI_leI (a := n) (b := b) (by omega) (by omega)).mp zc16) (by omega) | exact absurd ((nI_leI (a := n) (b := b) (by omega) (by omega)).mpr (by omega)) zc16) | (exfalso; simp_all; done)
    | succ n9 ih =>
      intro b hb he
      have he2 : (if 97 ≤ T b ∧ T b ≤ 122 then ck_psf T n9 (b + 1) else b) = ck_ps T n a := he
      refine hB bX8_takeWord_8 _ _ _ _ _ _ _ kX8_takeWord_8 ?_
      dsimp only [bX8_takeWord_8, kx_wp, kx_step, kx_lI, kx_lL, kx_lA, kx_gl, kx_pI, kx_pL, kx_pR, kx_pA, kx_pV, kx_s1, kx_s2, kx_sl, kx_pre, kx_c2, kx_pl, kx_cmp, kx_oF, kx_eqN, kx_nil, kx_c1, kx_ft, kx_aI, kx_aL, kx_aR, kx_ln, Nat.reduceAdd, Option.toList, List.cons_append, List.nil_append, cf8_2, cf8_6, cf8_1, cf8_0, cf8_7]
      repeat (simp only [pk_us, pk_un, kz_uu, ne_eq, Nat.reduceEqDiff, not_false_eq_true, nI_1, cx_8s, cx_8ss, cx_8o, cx_8n (show ¬ (67:Nat) = 68 by decide), h1, hT, cp8_6, cp8_2, cp8_7, ks_eq, ks_ss, nI_clamp (show b < 2 ^ 31 by omega)]; try dsimp only [kx_wp, kx_step, kx_lI, kx_lL, kx_lA, kx_gl, kx_pI, kx_pL, kx_pR, kx_pA, kx_pV, kx_s1, kx_s2, kx_sl, kx_pre, kx_c2, kx_pl, kx_cmp, kx_oF, kx_eqN, kx_nil, kx_c1, kx_ft, kx_aI, kx_aL, kx_aR, kx_ln, Nat.reduceAdd, Option.toList, List.cons_append, List.nil_append, cf8_2, cf8_6, cf8_1, cf8_0, cf8_7])
      repeat' apply And.intro
      all_goals try (first | with_reducible assumption | (with_reducible refine ck_nzI ?_; simp; done) | (with_reducible refine ck_nzL ?_; simp; done) | (with_reducible refine vp_in_nI ?_ ?_ <;> first | omega | decide) | (with_reducible refine Nat.le_of_ble_eq_true ?_; rfl) | omega | exact Or.inl trivial | exact Or.inr trivial | exact Or.inl rfl | exact Or.inr rfl)
      · intro zc16
        first | exact absurd rfl zc16 | exact absurd zc16 (by decide) | exact absurd (by decide) zc16 | (exfalso; first | exact absurd ((nI_leI (a := n) (b := b) (by omega) (by omega)).mp zc16) (by omega) | exact absurd ((nI_leI (a := n) (b := b) (by omega) (by omega)).mpr (by omega)) zc16) | (exfalso; simp_all; done)
      · intro zc16
        with_reducible first | have ze16 := Int32.not_le.mp zc16 | have ze16 := zc16
        refine hB bX8_takeWord_19 _ _ _ _ _ _ _ kX8_takeWord_19 ?_
        dsimp only [bX8_takeWord_19, kx_wp, kx_step, kx_lI, kx_lL, kx_lA, kx_gl, kx_pI, kx_pL, kx_pR, kx_pA, kx_pV, kx_s1, kx_s2, kx_sl, kx_pre, kx_c2, kx_pl, kx_cmp, kx_oF, kx_eqN, kx_nil, kx_c1, kx_ft, kx_aI, kx_aL, kx_aR, kx_ln, Nat.reduceAdd, Option.toList, List.cons_append, List.nil_append, cf8_2, cf8_6, cf8_1, cf8_0, cf8_7]
        repeat (simp only [pk_us, pk_un, kz_uu, ne_eq, Nat.reduceEqDiff, not_false_eq_true, nI_1, cx_8s, cx_8ss, cx_8o, cx_8n (show ¬ (67:Nat) = 68 by decide), h1, hT, cp8_6, cp8_2, cp8_7, ks_eq, ks_ss, nI_clamp (show b < 2 ^ 31 by omega)]; try dsimp only [kx_wp, kx_step, kx_lI, kx_lL, kx_lA, kx_gl, kx_pI, kx_pL, kx_pR, kx_pA, kx_pV, kx_s1, kx_s2, kx_sl, kx_pre, kx_c2, kx_pl, kx_cmp, kx_oF, kx_eqN, kx_nil, kx_c1, kx_ft, kx_aI, kx_aL, kx_aR, kx_ln, Nat.reduceAdd, Option.toList, List.cons_append, List.nil_append, cf8_2, cf8_6, cf8_1, cf8_0, cf8_7])
        repeat' apply And.intro
        all_goals try (first | with_reducible assumption | (with_reducible refine ck_nzI ?_; simp; done) | (with_reducible refine ck_nzL ?_; simp; done) | (with_reducible refine vp_in_nI ?_ ?_ <;> first | omega | decide) | (with_reducible refine Nat.le_of_ble_eq_true ?_; rfl) | omega | exact Or.inl trivial | exact Or.inr trivial | exact Or.inl rfl | exact Or.inr rfl)
        · intro zc30
          with_reducible first | have ze30 := Int32.not_le.mpr zc30 | have ze30 := zc30
          have zq : ck_ps T n a = b := (by first | exact he.symm | (rw [if_neg (fun q => ze30 q.1)] at he2; exact he2.symm) | (rw [if_neg (fun q => ze44 q.2)] at he2; exact he2.symm))
          refine hB bX8_takeWord_60 _ _ _ _ _ _ _ kX8_takeWord_60 ?_
          dsimp only [bX8_takeWord_60, kx_wp, kx_step, kx_lI, kx_lL, kx_lA, kx_gl, kx_pI, kx_pL, kx_pR, kx_pA, kx_pV, kx_s1, kx_s2, kx_sl, kx_pre, kx_c2, kx_pl, kx_cmp, kx_oF, kx_eqN, kx_nil, kx_c1, kx_ft, kx_aI, kx_aL, kx_aR, kx_ln, Nat.reduceAdd, Option.toList, List.cons_append, List.nil_append, cf8_2, cf8_6, cf8_1, cf8_0, cf8_7]
          repeat (simp only [pk_us, pk_un, kz_uu, ne_eq, Nat.reduceEqDiff, not_false_eq_true, nI_1, cx_8s, cx_8ss, cx_8o, cx_8n (show ¬ (67:Nat) = 68 by decide), h1, hT, cp8_6, cp8_2, cp8_7, ks_eq, ks_ss, nI_clamp (show b < 2 ^ 31 by omega)]; try dsimp only [kx_wp, kx_step, kx_lI, kx_lL, kx_lA, kx_gl, kx_pI, kx_pL, kx_pR, kx_pA, kx_pV, kx_s1, kx_s2, kx_sl, kx_pre, kx_c2, kx_pl, kx_cmp, kx_oF, kx_eqN, kx_nil, kx_c1, kx_ft, kx_aI, kx_aL, kx_aR, kx_ln, Nat.reduceAdd, Option.toList, List.cons_append, List.nil_append, cf8_2, cf8_6, cf8_1, cf8_0, cf8_7])
          repeat' apply And.intro
          all_goals try (first | with_reducible assumption | (with_reducible refine ck_nzI ?_; simp; done) | (with_reducible refine ck_nzL ?_; simp; done) | (with_reducible refine vp_in_nI ?_ ?_ <;> first | omega | decide) | (with_reducible refine Nat.le_of_ble_eq_true ?_; rfl) | omega | exact Or.inl trivial | exact Or.inr trivial | exact Or.inl rfl | exact Or.inr rfl)
          refine hC.1 46 _ _ _ _ _ _ _ 8 _ _ _ _ _ _ _ _ _ _ _ _ lX8_46 (ct_X8_skip0 l G (F := upd (upd (upd F 6 (nI a)) 2 (nI b)) 7 (nI b)) (x := x) hT (n := n) (a := b) (by simp only [pk_un, ne_eq, Nat.reduceEqDiff, not_false_eq_true]; exact h1) hn (by simp only [pk_us, pk_un, ne_eq, Nat.reduceEqDiff, not_false_eq_true]) (by omega)) ⟨by decide, rfl⟩ (cx_8o) rfl rfl (Nat.le_of_ble_eq_true rfl) (by first | decide | omega) (by decide) (by omega) (by omega) dX8_takeWord_70 ?_
          refine hB bX8_takeWord_73 _ _ _ _ _ _ _ kX8_takeWord_73 ?_
          dsimp only [bX8_takeWord_73, kx_wp, kx_step, kx_lI, kx_lL, kx_lA, kx_gl, kx_pI, kx_pL, kx_pR, kx_pA, kx_pV, kx_s1, kx_s2, kx_sl, kx_pre, kx_c2, kx_pl, kx_cmp, kx_oF, kx_eqN, kx_nil, kx_c1, kx_ft, kx_aI, kx_aL, kx_aR, kx_ln, Nat.reduceAdd, Option.toList, List.cons_append, List.nil_append, cf8_2, cf8_6, cf8_1, cf8_0, cf8_7]
          repeat (simp only [pk_us, pk_un, kz_uu, ne_eq, Nat.reduceEqDiff, not_false_eq_true, nI_1, cx_8s, cx_8ss, cx_8o, cx_8n (show ¬ (67:Nat) = 68 by decide), h1, hT, cp8_6, cp8_2, cp8_7, ks_eq, ks_ss, nI_clamp (show b < 2 ^ 31 by omega)]; try dsimp only [kx_wp, kx_step, kx_lI, kx_lL, kx_lA, kx_gl, kx_pI, kx_pL, kx_pR, kx_pA, kx_pV, kx_s1, kx_s2, kx_sl, kx_pre, kx_c2, kx_pl, kx_cmp, kx_oF, kx_eqN, kx_nil, kx_c1, kx_ft, kx_aI, kx_aL, kx_aR, kx_ln, Nat.reduceAdd, Option.toList, List.cons_append, List.nil_append, cf8_2, cf8_6, cf8_1, cf8_0, cf8_7])
          all_goals (repeat' apply And.intro)
          all_goals first | exact True.intro | rfl | (unfold cx_tw; rw [zq])
        · intro zc30
          with_reducible first | have ze30 := Int32.not_lt.mp zc30 | have ze30 := zc30
          refine hB bX8_takeWord_33 _ _ _ _ _ _ _ kX8_takeWord_33 ?_
          dsimp only [bX8_takeWord_33, kx_wp, kx_step, kx_lI, kx_lL, kx_lA, kx_gl, kx_pI, kx_pL, kx_pR, kx_pA, kx_pV, kx_s1, kx_s2, kx_sl, kx_pre, kx_c2, kx_pl, kx_cmp, kx_oF, kx_eqN, kx_nil, kx_c1, kx_ft, kx_aI, kx_aL, kx_aR, kx_ln, Nat.reduceAdd, Option.toList, List.cons_append, List.nil_append, cf8_2, cf8_6, cf8_1, cf8_0, cf8_7]
          repeat (simp only [pk_us, pk_un, kz_uu, ne_eq, Nat.reduceEqDiff, not_false_eq_true, nI_1, cx_8s, cx_8ss, cx_8o, cx_8n (show ¬ (67:Nat) = 68 by decide), h1, hT, cp8_6, cp8_2, cp8_7, ks_eq, ks_ss, nI_clamp (show b < 2 ^ 31 by omega)]; try dsimp only [kx_wp, kx_step, kx_lI, kx_lL, kx_lA, kx_gl, kx_pI, kx_pL, kx_pR, kx_pA, kx_pV, kx_s1, kx_s2, kx_sl, kx_pre, kx_c2, kx_pl, kx_cmp, kx_oF, kx_eqN, kx_nil, kx_c1, kx_ft, kx_aI, kx_aL, kx_aR, kx_ln, Nat.reduceAdd, Option.toList, List.cons_append, List.nil_append, cf8_2, cf8_6, cf8_1, cf8_0, cf8_7])
          repeat' apply And.intro
          all_goals try (first | with_reducible assumption | (with_reducible refine ck_nzI ?_; simp; done) | (with_reducible refine ck_nzL ?_; simp; done) | (with_reducible refine vp_in_nI ?_ ?_ <;> first | omega | decide) | (with_reducible refine Nat.le_of_ble_eq_true ?_; rfl) | omega | exact Or.inl trivial | exact Or.inr trivial | exact Or.inl rfl | exact Or.inr rfl)
          · intro zc44
            with_reducible first | have ze44 := Int32.not_le.mpr zc44 | have ze44 := zc44
            have zq : ck_ps T n a = b := (by first | exact he.symm | (rw [if_neg (fun q => ze30 q.1)] at he2; exact he2.symm) | (rw [if_neg (fun q => ze44 q.2)] at he2; exact he2.symm))
            refine hB bX8_takeWord_60 _ _ _ _ _ _ _ kX8_takeWord_60 ?_
            dsimp only [bX8_takeWord_60, kx_wp, kx_step, kx_lI, kx_lL, kx_lA, kx_gl, kx_pI, kx_pL, kx_pR, kx_pA, kx_pV, kx_s1, kx_s2, kx_sl, kx_pre, kx_c2, kx_pl, kx_cmp, kx_oF, kx_eqN, kx_nil, kx_c1, kx_ft, kx_aI, kx_aL, kx_aR, kx_ln, Nat.reduceAdd, Option.toList, List.cons_append, List.nil_append, cf8_2, cf8_6, cf8_1, cf8_0, cf8_7]
            repeat (simp only [pk_us, pk_un, kz_uu, ne_eq, Nat.reduceEqDiff, not_false_eq_true, nI_1, cx_8s, cx_8ss, cx_8o, cx_8n (show ¬ (67:Nat) = 68 by decide), h1, hT, cp8_6, cp8_2, cp8_7, ks_eq, ks_ss, nI_clamp (show b < 2 ^ 31 by omega)]; try dsimp only [kx_wp, kx_step, kx_lI, kx_lL, kx_lA, kx_gl, kx_pI, kx_pL, kx_pR, kx_pA, kx_pV, kx_s1, kx_s2, kx_sl, kx_pre, kx_c2, kx_pl, kx_cmp, kx_oF, kx_eqN, kx_nil, kx_c1, kx_ft, kx_aI, kx_aL, kx_aR, kx_ln, Nat.reduceAdd, Option.toList, List.cons_append, List.nil_append, cf8_2, cf8_6, cf8_1, cf8_0, cf8_7])
            repeat' apply And.intro
            all_goals try (first | with_reducible assumption | (with_reducible refine ck_nzI ?_; simp; done) | (with_reducible refine ck_nzL ?_; simp; done) | (with_reducible refine vp_in_nI ?_ ?_ <;> first | omega | decide) | (with_reducible refine Nat.le_of_ble_eq_true ?_; rfl) | omega | exact Or.inl trivial | exact Or.inr trivial | exact Or.inl rfl | exact Or.inr rfl)
            refine hC.1 46 _ _ _ _ _ _ _ 8 _ _ _ _ _ _ _ _ _ _ _ _ lX8_46 (ct_X8_skip0 l G (F := upd (upd (upd F 6 (nI a)) 2 (nI b)) 7 (nI b)) (x := x) hT (n := n) (a := b) (by simp only [pk_un, ne_eq, Nat.reduceEqDiff, not_false_eq_true]; exact h1) hn (by simp only [pk_us, pk_un, ne_eq, Nat.reduceEqDiff, not_false_eq_true]) (by omega)) ⟨by decide, rfl⟩ (cx_8o) rfl rfl (Nat.le_of_ble_eq_true rfl) (by first | decide | omega) (by decide) (by omega) (by omega) dX8_takeWord_70 ?_
            refine hB bX8_takeWord_73 _ _ _ _ _ _ _ kX8_takeWord_73 ?_
            dsimp only [bX8_takeWord_73, kx_wp, kx_step, kx_lI, kx_lL, kx_lA, kx_gl, kx_pI, kx_pL, kx_pR, kx_pA, kx_pV, kx_s1, kx_s2, kx_sl, kx_pre, kx_c2, kx_pl, kx_cmp, kx_oF, kx_eqN, kx_nil, kx_c1, kx_ft, kx_aI, kx_aL, kx_aR, kx_ln, Nat.reduceAdd, Option.toList, List.cons_append, List.nil_append, cf8_2, cf8_6, cf8_1, cf8_0, cf8_7]
            repeat (simp only [pk_us, pk_un, kz_uu, ne_eq, Nat.reduceEqDiff, not_false_eq_true, nI_1, cx_8s, cx_8ss, cx_8o, cx_8n (show ¬ (67:Nat) = 68 by decide), h1, hT, cp8_6, cp8_2, cp8_7, ks_eq, ks_ss, nI_clamp (show b < 2 ^ 31 by omega)]; try dsimp only [kx_wp, kx_step, kx_lI, kx_lL, kx_lA, kx_gl, kx_pI, kx_pL, kx_pR, kx_pA, kx_pV, kx_s1, kx_s2, kx_sl, kx_pre, kx_c2, kx_pl, kx_cmp, kx_oF, kx_eqN, kx_nil, kx_c1, kx_ft, kx_aI, kx_aL, kx_aR, kx_ln, Nat.reduceAdd, Option.toList, List.cons_append, List.nil_append, cf8_2, cf8_6, cf8_1, cf8_0, cf8_7])
            all_goals (repeat' apply And.intro)
            all_goals first | exact True.intro | rfl | (unfold cx_tw; rw [zq])
          · intro zc44
            with_reducible first | have ze44 := Int32.not_lt.mp zc44 | have ze44 := zc44
            refine hB bX8_takeWord_47 _ _ _ _ _ _ _ kX8_takeWord_47 ?_
            dsimp only [bX8_takeWord_47, kx_wp, kx_step, kx_lI, kx_lL, kx_lA, kx_gl, kx_pI, kx_pL, kx_pR, kx_pA, kx_pV, kx_s1, kx_s2, kx_sl, kx_pre, kx_c2, kx_pl, kx_cmp, kx_oF, kx_eqN, kx_nil, kx_c1, kx_ft, kx_aI, kx_aL, kx_aR, kx_ln, Nat.reduceAdd, Option.toList, List.cons_append, List.nil_append, cf8_2, cf8_6, cf8_1, cf8_0, cf8_7]
            repeat (simp only [pk_us, pk_un, kz_uu, ne_eq, Nat.reduceEqDiff, not_false_eq_true, nI_1, cx_8s, cx_8ss, cx_8o, cx_8n (show ¬ (67:Nat) = 68 by decide), h1, hT, cp8_6, cp8_2, cp8_7, ks_eq, ks_ss, nI_clamp (show b < 2 ^ 31 by omega)]; try dsimp only [kx_wp, kx_step, kx_lI, kx_lL, kx_lA, kx_gl, kx_pI, kx_pL, kx_pR, kx_pA, kx_pV, kx_s1, kx_s2, kx_sl, kx_pre, kx_c2, kx_pl, kx_cmp, kx_oF, kx_eqN, kx_nil, kx_c1, kx_ft, kx_aI, kx_aL, kx_aR, kx_ln, Nat.reduceAdd, Option.toList, List.cons_append, List.nil_append, cf8_2, cf8_6, cf8_1, cf8_0, cf8_7])
            repeat' apply And.intro
            all_goals try (first | with_reducible assumption | (with_reducible refine ck_nzI ?_; simp; done) | (with_reducible refine ck_nzL ?_; simp; done) | (with_reducible refine vp_in_nI ?_ ?_ <;> first | omega | decide) | (with_reducible refine Nat.le_of_ble_eq_true ?_; rfl) | omega | exact Or.inl trivial | exact Or.inr trivial | exact Or.inl rfl | exact Or.inr rfl)
            rw [if_pos ⟨ze30, ze44⟩] at he2
            exact ih (b + 1) (by omega) he2
  refine hB bX8_takeWord_0 _ _ _ _ _ _ _ kX8_takeWord_0 ?_
  dsimp only [bX8_takeWord_0, kx_wp, kx_step, kx_lI, kx_lL, kx_lA, kx_gl, kx_pI, kx_pL, kx_pR, kx_pA, kx_pV, kx_s1, kx_s2, kx_sl, kx_pre, kx_c2, kx_pl, kx_cmp, kx_oF, kx_eqN, kx_nil, kx_c1, kx_ft, kx_aI, kx_aL, kx_aR, kx_ln, Nat.reduceAdd, Option.toList, List.cons_append, List.nil_append, cf8_2, cf8_6, cf8_1, cf8_0, cf8_7]
  repeat (simp only [pk_us, pk_un, kz_uu, ne_eq, Nat.reduceEqDiff, not_false_eq_true, nI_1, cx_8s, cx_8ss, cx_8o, cx_8n (show ¬ (67:Nat) = 68 by decide), h1, hT, cp8_6, cp8_2, cp8_7, ks_eq, ks_ss, h2]; try dsimp only [kx_wp, kx_step, kx_lI, kx_lL, kx_lA, kx_gl, kx_pI, kx_pL, kx_pR, kx_pA, kx_pV, kx_s1, kx_s2, kx_sl, kx_pre, kx_c2, kx_pl, kx_cmp, kx_oF, kx_eqN, kx_nil, kx_c1, kx_ft, kx_aI, kx_aL, kx_aR, kx_ln, Nat.reduceAdd, Option.toList, List.cons_append, List.nil_append, cf8_2, cf8_6, cf8_1, cf8_0, cf8_7])
  repeat' apply And.intro
  all_goals try (first | with_reducible assumption | (with_reducible refine ck_nzI ?_; simp; done) | (with_reducible refine ck_nzL ?_; simp; done) | (with_reducible refine vp_in_nI ?_ ?_ <;> first | omega | decide) | (with_reducible refine Nat.le_of_ble_eq_true ?_; rfl) | omega | exact Or.inl trivial | exact Or.inr trivial | exact Or.inl rfl | exact Or.inr rfl)
  have zi := loop8 (n - a) a (by omega) rfl
  rw [kz_ui (f := upd F 6 (nI a)) (k := 2) (x := nI a) (by simp only [pk_un, ne_eq, Nat.reduceEqDiff, not_false_eq_true]; exact h2)] at zi
  exact zi

def bX8_takeNumber_0 : List kx_O := [(.aload_n 0, 0, 0, 0, .null), (.aload_n 0, 0, 0, 0, .null), (.getfield 28, 8, 2, 0, .null), (.putfield 77, 8, 8, 0, .null), (.aload_n 0, 0, 0, 0, .null)]
theorem kX8_takeNumber_0 : kx_oks kxL_X8 false cX8_takeNumber 0 bX8_takeNumber_0 = true := by decide +kernel
def bX8_takeNumber_12 : List kx_O := [(.ifCond .ne 15, 27, 0, 0, .null)]
theorem kX8_takeNumber_12 : kx_oks kxL_X8 false cX8_takeNumber 12 bX8_takeNumber_12 = true := by decide +kernel
def bX8_takeNumber_15 : List kx_O := [(.aload_n 0, 0, 0, 0, .null), (.iconst 1, 0, 0, 0, .int 1), (.aload_n 0, 0, 0, 0, .null), (.getfield 28, 8, 2, 0, .null)]
theorem kX8_takeNumber_15 : kx_oks kxL_X8 false cX8_takeNumber 15 bX8_takeNumber_15 = true := by decide +kernel
def bX8_takeNumber_24 : List kx_O := [(.pop, 0, 0, 0, .null), (.iconst 0, 0, 0, 0, .int 0), (.ireturn, 0, 0, 0, .null)]
theorem kX8_takeNumber_24 : kx_oks kxL_X8 false cX8_takeNumber 24 bX8_takeNumber_24 = true := by decide +kernel
def bX8_takeNumber_27 : List kx_O := [(.iconst 0, 0, 0, 0, .int 0), (.istore_n 3, 3, 0, 0, .null)]
theorem kX8_takeNumber_27 : kx_oks kxL_X8 false cX8_takeNumber 27 bX8_takeNumber_27 = true := by decide +kernel
def bX8_takeNumber_29 : List kx_O := [(.aload_n 0, 0, 0, 0, .null), (.getfield 28, 8, 2, 0, .null), (.aload_n 0, 0, 0, 0, .null), (.getfield 25, 8, 1, 0, .null), (.if_icmp .ge 67, 104, 0, 0, .null)]
theorem kX8_takeNumber_29 : kx_oks kxL_X8 false cX8_takeNumber 29 bX8_takeNumber_29 = true := by decide +kernel
def bX8_takeNumber_40 : List kx_O := [(.aload_n 0, 0, 0, 0, .null), (.getfield 15, 8, 0, 0, .null), (.aload_n 0, 0, 0, 0, .null), (.getfield 28, 8, 2, 0, .null), (.iaload, 0, 0, 0, .null), (.bipush 48, 0, 0, 0, .int 48), (.if_icmp .lt 53, 104, 0, 0, .null)]
theorem kX8_takeNumber_40 : kx_oks kxL_X8 false cX8_takeNumber 40 bX8_takeNumber_40 = true := by decide +kernel
def bX8_takeNumber_54 : List kx_O := [(.aload_n 0, 0, 0, 0, .null), (.getfield 15, 8, 0, 0, .null), (.aload_n 0, 0, 0, 0, .null), (.getfield 28, 8, 2, 0, .null), (.iaload, 0, 0, 0, .null), (.bipush 57, 0, 0, 0, .int 57), (.if_icmp .gt 39, 104, 0, 0, .null)]
theorem kX8_takeNumber_54 : kx_oks kxL_X8 false cX8_takeNumber 54 bX8_takeNumber_54 = true := by decide +kernel
def bX8_takeNumber_68 : List kx_O := [(.ldc 84, 0, 0, 0, .int (100000)), (.bipush 10, 0, 0, 0, .int 10), (.iload_n 3, 3, 0, 0, .null), (.imul, 0, 0, 0, .null), (.aload_n 0, 0, 0, 0, .null), (.getfield 15, 8, 0, 0, .null), (.aload_n 0, 0, 0, 0, .null), (.getfield 28, 8, 2, 0, .null), (.iaload, 0, 0, 0, .null), (.iadd, 0, 0, 0, .null), (.bipush 48, 0, 0, 0, .int 48), (.isub, 0, 0, 0, .null)]
theorem kX8_takeNumber_68 : kx_oks kxL_X8 false cX8_takeNumber 68 bX8_takeNumber_68 = true := by decide +kernel
def bX8_takeNumber_90 : List kx_O := [(.istore_n 3, 3, 0, 0, .null), (.aload_n 0, 0, 0, 0, .null), (.dup, 0, 0, 0, .null), (.getfield 28, 8, 2, 0, .null), (.iconst 1, 0, 0, 0, .int 1), (.iadd, 0, 0, 0, .null), (.putfield 28, 8, 2, 0, .null), (.goto (-72), 29, 0, 0, .null)]
theorem kX8_takeNumber_90 : kx_oks kxL_X8 false cX8_takeNumber 90 bX8_takeNumber_90 = true := by decide +kernel
def bX8_takeNumber_104 : List kx_O := [(.aload_n 0, 0, 0, 0, .null), (.iconst 0, 0, 0, 0, .int 0)]
theorem kX8_takeNumber_104 : kx_oks kxL_X8 false cX8_takeNumber 104 bX8_takeNumber_104 = true := by decide +kernel
def bX8_takeNumber_109 : List kx_O := [(.iload_n 3, 3, 0, 0, .null), (.iload_n 1, 1, 0, 0, .null), (.if_icmp .lt 8, 119, 0, 0, .null)]
theorem kX8_takeNumber_109 : kx_oks kxL_X8 false cX8_takeNumber 109 bX8_takeNumber_109 = true := by decide +kernel
def bX8_takeNumber_114 : List kx_O := [(.iload_n 3, 3, 0, 0, .null), (.iload_n 2, 2, 0, 0, .null), (.if_icmp .le 15, 131, 0, 0, .null)]
theorem kX8_takeNumber_114 : kx_oks kxL_X8 false cX8_takeNumber 114 bX8_takeNumber_114 = true := by decide +kernel
def bX8_takeNumber_119 : List kx_O := [(.aload_n 0, 0, 0, 0, .null), (.iconst 2, 0, 0, 0, .int 2), (.aload_n 0, 0, 0, 0, .null), (.getfield 77, 8, 8, 0, .null)]
theorem kX8_takeNumber_119 : kx_oks kxL_X8 false cX8_takeNumber 119 bX8_takeNumber_119 = true := by decide +kernel
def bX8_takeNumber_128 : List kx_O := [(.pop, 0, 0, 0, .null), (.iconst 0, 0, 0, 0, .int 0), (.ireturn, 0, 0, 0, .null)]
theorem kX8_takeNumber_128 : kx_oks kxL_X8 false cX8_takeNumber 128 bX8_takeNumber_128 = true := by decide +kernel
def bX8_takeNumber_131 : List kx_O := [(.iload_n 3, 3, 0, 0, .null), (.ireturn, 0, 0, 0, .null)]
theorem kX8_takeNumber_131 : kx_oks kxL_X8 false cX8_takeNumber 131 bX8_takeNumber_131 = true := by decide +kernel
theorem dX8_takeNumber_9 : decode cX8_takeNumber 9 = .ok (.invokevirtual 80, 3) := by decide +kernel
theorem dX8_takeNumber_21 : decode cX8_takeNumber 21 = .ok (.invokevirtual 58, 3) := by decide +kernel
theorem dX8_takeNumber_87 : decode cX8_takeNumber 87 = .ok (.invokestatic 19, 3) := by decide +kernel
theorem dX8_takeNumber_106 : decode cX8_takeNumber 106 = .ok (.invokevirtual 46, 3) := by decide +kernel
theorem dX8_takeNumber_125 : decode cX8_takeNumber 125 = .ok (.invokevirtual 58, 3) := by decide +kernel
set_option maxRecDepth 100000 in
set_option maxHeartbeats 4000000 in
theorem ct_X8_takeNumber_f (l : Launch) (G : kx_G) {P : kx_P} {sz : Nat} {F T : Nat → Int32} {x : Value} (hT : P 67 = kI 0 400 T) {n a : Nat} (h1 : F 1 = nI n) (hn : n ≤ 400) (h2 : F 2 = nI a) (ha : a ≤ n) {lo hi : Int32} (hd : ¬ (48 ≤ cx_nx T n a ∧ cx_nx T n a ≤ 57))  : kx_M l G sX8_takeNumber 2 0 0 [.ref 68, .int (lo), .int (hi)] (cx_8 P x F) sz (some (.int (0))) (cx_8 P x (cx_rf 1 (nI a) (upd F 8 (nI a)))) sz := by
  refine kx_mk kx_tab kxLok_X8 (ini := false) [some (.ref 68), some (.int (lo)), some (.int (hi)), none] ⟨by decide, rfl, by decide, by decide⟩ (⟨_, rfl⟩) rfl rfl (fun g hB hC => ?_)
  refine hB bX8_takeNumber_0 _ _ _ _ _ _ _ kX8_takeNumber_0 ?_
  dsimp only [bX8_takeNumber_0, kx_wp, kx_step, kx_lI, kx_lL, kx_lA, kx_gl, kx_pI, kx_pL, kx_pR, kx_pA, kx_pV, kx_s1, kx_s2, kx_sl, kx_pre, kx_c2, kx_pl, kx_cmp, kx_oF, kx_eqN, kx_nil, kx_c1, kx_ft, kx_aI, kx_aL, kx_aR, kx_ln, Nat.reduceAdd, Option.toList, List.cons_append, List.nil_append, cf8_2, cf8_8, cf8_1, cf8_0]
  repeat (simp only [pk_us, pk_un, kz_uu, ne_eq, Nat.reduceEqDiff, not_false_eq_true, nI_1, cx_8s, cx_8ss, cx_8o, cx_8n (show ¬ (67:Nat) = 68 by decide), h1, hT, h2, cp8_8, cp8_2, ks_eq, ks_ss]; try dsimp only [kx_wp, kx_step, kx_lI, kx_lL, kx_lA, kx_gl, kx_pI, kx_pL, kx_pR, kx_pA, kx_pV, kx_s1, kx_s2, kx_sl, kx_pre, kx_c2, kx_pl, kx_cmp, kx_oF, kx_eqN, kx_nil, kx_c1, kx_ft, kx_aI, kx_aL, kx_aR, kx_ln, Nat.reduceAdd, Option.toList, List.cons_append, List.nil_append, cf8_2, cf8_8, cf8_1, cf8_0])
  repeat' apply And.intro
  all_goals try (first | with_reducible assumption | (with_reducible refine ck_nzI ?_; simp; done) | (with_reducible refine ck_nzL ?_; simp; done) | (with_reducible refine vp_in_nI ?_ ?_ <;> first | omega | decide) | (with_reducible refine Nat.le_of_ble_eq_true ?_; rfl) | omega | exact Or.inl trivial | exact Or.inr trivial | exact Or.inl rfl | exact Or.inr rfl)
  refine hC.1 80 _ _ _ _ _ _ _ 8 _ _ _ _ _ _ _ _ _ _ _ _ lX8_80 (ct_X8_nextIsDigit_f (F := upd F 8 (nI a)) (x := x) hT (n := n) (a := a) (by simp only [pk_un, ne_eq, Nat.reduceEqDiff, not_false_eq_true]; exact h1) hn (by simp only [pk_un, ne_eq, Nat.reduceEqDiff, not_false_eq_true]; exact h2) ha hd) ⟨by decide, rfl⟩ (cx_8o) rfl rfl (Nat.le_of_ble_eq_true rfl) (by first | decide | omega) (by decide) (by omega) (by omega) dX8_takeNumber_9 ?_
  refine hB bX8_takeNumber_12 _ _ _ _ _ _ _ kX8_takeNumber_12 ?_
  dsimp only [bX8_takeNumber_12, kx_wp, kx_step, kx_lI, kx_lL, kx_lA, kx_gl, kx_pI, kx_pL, kx_pR, kx_pA, kx_pV, kx_s1, kx_s2, kx_sl, kx_pre, kx_c2, kx_pl, kx_cmp, kx_oF, kx_eqN, kx_nil, kx_c1, kx_ft, kx_aI, kx_aL, kx_aR, kx_ln, Nat.reduceAdd, Option.toList, List.cons_append, List.nil_append, cf8_2, cf8_8, cf8_1, cf8_0]
  repeat (simp only [pk_us, pk_un, kz_uu, ne_eq, Nat.reduceEqDiff, not_false_eq_true, nI_1, cx_8s, cx_8ss, cx_8o, cx_8n (show ¬ (67:Nat) = 68 by decide), h1, hT, h2, cp8_8, cp8_2, ks_eq, ks_ss]; try dsimp only [kx_wp, kx_step, kx_lI, kx_lL, kx_lA, kx_gl, kx_pI, kx_pL, kx_pR, kx_pA, kx_pV, kx_s1, kx_s2, kx_sl, kx_pre, kx_c2, kx_pl, kx_cmp, kx_oF, kx_eqN, kx_nil, kx_c1, kx_ft, kx_aI, kx_aL, kx_aR, kx_ln, Nat.reduceAdd, Option.toList, List.cons_append, List.nil_append, cf8_2, cf8_8, cf8_1, cf8_0])
  repeat' apply And.intro
  all_goals try (first | with_reducible assumption | (with_reducible refine ck_nzI ?_; simp; done) | (with_reducible refine ck_nzL ?_; simp; done) | (with_reducible refine vp_in_nI ?_ ?_ <;> first | omega | decide) | (with_reducible refine Nat.le_of_ble_eq_true ?_; rfl) | omega | exact Or.inl trivial | exact Or.inr trivial | exact Or.inl rfl | exact Or.inr rfl)
  · intro zc12
    first | exact absurd rfl zc12 | exact absurd zc12 (by decide) | exact absurd (by decide) zc12 | (exfalso; ((try clear hB hC); simp only [ck_lt, ck_le, ck_eq, not_true_eq_false, not_false_eq_true, Int32.reduceToInt, Int32.reduceAdd, Int32.reduceSub, Int32.reduceMul] at * <;> omega)) | (exfalso; simp_all; done)
  · intro zc12
    with_reducible first | have ze12 := Decidable.not_not.mp zc12 | have ze12 := zc12
    refine hB bX8_takeNumber_15 _ _ _ _ _ _ _ kX8_takeNumber_15 ?_
    dsimp only [bX8_takeNumber_15, kx_wp, kx_step, kx_lI, kx_lL, kx_lA, kx_gl, kx_pI, kx_pL, kx_pR, kx_pA, kx_pV, kx_s1, kx_s2, kx_sl, kx_pre, kx_c2, kx_pl, kx_cmp, kx_oF, kx_eqN, kx_nil, kx_c1, kx_ft, kx_aI, kx_aL, kx_aR, kx_ln, Nat.reduceAdd, Option.toList, List.cons_append, List.nil_append, cf8_2, cf8_8, cf8_1, cf8_0]
    repeat (simp only [pk_us, pk_un, kz_uu, ne_eq, Nat.reduceEqDiff, not_false_eq_true, nI_1, cx_8s, cx_8ss, cx_8o, cx_8n (show ¬ (67:Nat) = 68 by decide), h1, hT, h2, cp8_8, cp8_2, ks_eq, ks_ss]; try dsimp only [kx_wp, kx_step, kx_lI, kx_lL, kx_lA, kx_gl, kx_pI, kx_pL, kx_pR, kx_pA, kx_pV, kx_s1, kx_s2, kx_sl, kx_pre, kx_c2, kx_pl, kx_cmp, kx_oF, kx_eqN, kx_nil, kx_c1, kx_ft, kx_aI, kx_aL, kx_aR, kx_ln, Nat.reduceAdd, Option.toList, List.cons_append, List.nil_append, cf8_2, cf8_8, cf8_1, cf8_0])
    repeat' apply And.intro
    all_goals try (first | with_reducible assumption | (with_reducible refine ck_nzI ?_; simp; done) | (with_reducible refine ck_nzL ?_; simp; done) | (with_reducible refine vp_in_nI ?_ ?_ <;> first | omega | decide) | (with_reducible refine Nat.le_of_ble_eq_true ?_; rfl) | omega | exact Or.inl trivial | exact Or.inr trivial | exact Or.inl rfl | exact Or.inr rfl)
    refine hC.1 58 _ _ _ _ _ _ _ 8 _ _ _ _ _ _ _ _ _ _ _ _ lX8_58 (ct_X8_refuse l G) ⟨by decide, rfl⟩ (cx_8o) rfl rfl (Nat.le_of_ble_eq_true rfl) (by first | decide | omega) (by decide) (by omega) (by omega) dX8_takeNumber_21 ?_
    refine hB bX8_takeNumber_24 _ _ _ _ _ _ _ kX8_takeNumber_24 ?_
    dsimp only [bX8_takeNumber_24, kx_wp, kx_step, kx_lI, kx_lL, kx_lA, kx_gl, kx_pI, kx_pL, kx_pR, kx_pA, kx_pV, kx_s1, kx_s2, kx_sl, kx_pre, kx_c2, kx_pl, kx_cmp, kx_oF, kx_eqN, kx_nil, kx_c1, kx_ft, kx_aI, kx_aL, kx_aR, kx_ln, Nat.reduceAdd, Option.toList, List.cons_append, List.nil_append, cf8_2, cf8_8, cf8_1, cf8_0]
    repeat (simp only [pk_us, pk_un, kz_uu, ne_eq, Nat.reduceEqDiff, not_false_eq_true, nI_1, cx_8s, cx_8ss, cx_8o, cx_8n (show ¬ (67:Nat) = 68 by decide), h1, hT, h2, cp8_8, cp8_2, ks_eq, ks_ss]; try dsimp only [kx_wp, kx_step, kx_lI, kx_lL, kx_lA, kx_gl, kx_pI, kx_pL, kx_pR, kx_pA, kx_pV, kx_s1, kx_s2, kx_sl, kx_pre, kx_c2, kx_pl, kx_cmp, kx_oF, kx_eqN, kx_nil, kx_c1, kx_ft, kx_aI, kx_aL, kx_aR, kx_ln, Nat.reduceAdd, Option.toList, List.cons_append, List.nil_append, cf8_2, cf8_8, cf8_1, cf8_0])
    all_goals (repeat' apply And.intro)
    all_goals ((try clear hB hC); first | exact True.intro | with_reducible rfl | with_reducible assumption | (with_reducible refine vp_in_nI ?_ ?_ <;> first | omega | decide) | exact Nat.le_of_ble_eq_true rfl | (with_reducible refine ck_nzI ?_; simp; done) | (with_reducible refine ck_nzL ?_; simp; done) | (simp only [pk_us, pk_uLs, eq_true ze12, ↓reduceIte, not_true_eq_false, not_false_eq_true]; done) | (simp only [eq_true ze12, ↓reduceIte, not_true_eq_false, not_false_eq_true]; with_reducible rfl) | omega | skip)

set_option maxRecDepth 100000 in
set_option maxHeartbeats 4000000 in
theorem ct_X8_takeNumber_t (l : Launch) (G : kx_G) {P : kx_P} {sz : Nat} {F T : Nat → Int32} {x : Value} (hT : P 67 = kI 0 400 T) {n a : Nat} (h1 : F 1 = nI n) (hn : n ≤ 400) (h2 : F 2 = nI a) (ha : a ≤ n) {lo hi : Int32} (hd : 48 ≤ cx_nx T n a ∧ cx_nx T n a ≤ 57)  : kx_M l G sX8_takeNumber 2 0 0 [.ref 68, .int (lo), .int (hi)] (cx_8 P x F) sz (some (.int (cx_nv T n lo hi a))) (cx_8 P x (cx_nF T n lo hi a F)) sz := by
  refine kx_mk kx_tab kxLok_X8 (ini := false) [some (.ref 68), some (.int (lo)), some (.int (hi)), none] ⟨by decide, rfl, by decide, by decide⟩ (⟨_, rfl⟩) rfl rfl (fun g hB hC => ?_)
  have loop29 : ∀ (n9 : Nat) (b : Nat) (v : Int32), b + n9 = n → cx_dgf T n9 b v = cx_dgf T (n - a) a 0 → g 29 [some (.ref 68), some (.int lo), some (.int hi), some (.int v)] [] (cx_8 P x (upd (upd F 8 (nI a)) 2 (nI b))) sz 0 0 := by
    intro n9
    induction n9 with
    | zero =>
      intro b v hb he
      refine hB bX8_takeNumber_29 _ _ _ _ _ _ _ kX8_takeNumber_29 ?_
      dsimp only [bX8_takeNumber_29, kx_wp, kx_step, kx_lI, kx_lL, kx_lA, kx_gl, kx_pI, kx_pL, kx_pR, kx_pA, kx_pV, kx_s1, kx_s2, kx_sl, kx_pre, kx_c2, kx_pl, kx_cmp, kx_oF, kx_eqN, kx_nil, kx_c1, kx_ft, kx_aI, kx_aL, kx_aR, kx_ln, Nat.reduceAdd, Option.toList, List.cons_append, List.nil_append, cf8_2, cf8_8, cf8_1, cf8_0]
      repeat (simp only [pk_us, pk_un, kz_uu, ne_eq, Nat.reduceEqDiff, not_false_eq_true, nI_1, cx_8s, cx_8ss, cx_8o, cx_8n (show ¬ (67:Nat) = 68 by decide), h1, hT, cp8_8, cp8_2, ks_eq, ks_ss, nI_clamp (show b < 2 ^ 31 by omega)]; try dsimp only [kx_wp, kx_step, kx_lI, kx_lL, kx_lA, kx_gl, kx_pI, kx_pL, kx_pR, kx_pA, kx_pV, kx_s1, kx_s2, kx_sl, kx_pre, kx_c2, kx_pl, kx_cmp, kx_oF, kx_eqN, kx_nil, kx_c1, kx_ft, kx_aI, kx_aL, kx_aR, kx_ln, Nat.reduceAdd, Option.toList, List.cons_append, List.nil_append, cf8_2, cf8_8, cf8_1, cf8_0])
      repeat' apply And.intro
      all_goals try (first | with_reducible assumption | (with_reducible refine ck_nzI ?_; simp; done) | (with_reducible refine ck_nzL ?_; simp; done) | (with_reducible refine vp_in_nI ?_ ?_ <;> first | omega | decide) | (with_reducible refine Nat.le_of_ble_eq_true ?_; rfl) | omega | exact Or.inl trivial | exact Or.inr trivial | exact Or.inl rfl | exact Or.inr rfl)
      · intro zc37
        with_reducible first | have ze37 := Int32.not_lt.mpr zc37 | have ze37 := zc37
        have zq : cx_dgf T (n - a) a 0 = (v, b) := (by first | exact he.symm | (rw [if_neg (fun q => ze51 q.1)] at he2; exact he2.symm) | (rw [if_neg (fun q => ze65 q.2)] at he2; exact he2.symm))
        refine hB bX8_takeNumber_104 _ _ _ _ _ _ _ kX8_takeNumber_104 ?_
        dsimp only [bX8_takeNumber_104, kx_wp, kx_step, kx_lI, kx_lL, kx_lA, kx_gl, kx_pI, kx_pL, kx_pR, kx_pA, kx_pV, kx_s1, kx_s2, kx_sl, kx_pre, kx_c2, kx_pl, kx_cmp, kx_oF, kx_eqN, kx_nil, kx_c1, kx_ft, kx_aI, kx_aL, kx_aR, kx_ln, Nat.reduceAdd, Option.toList, List.cons_append, List.nil_append, cf8_2, cf8_8, cf8_1, cf8_0]
        repeat (simp only [pk_us, pk_un, kz_uu, ne_eq, Nat.reduceEqDiff, not_false_eq_true, nI_1, cx_8s, cx_8ss, cx_8o, cx_8n (show ¬ (67:Nat) = 68 by decide), h1, hT, cp8_8, cp8_2, ks_eq, ks_ss, nI_clamp (show b < 2 ^ 31 by omega)]; try dsimp only [kx_wp, kx_step, kx_lI, kx_lL, kx_lA, kx_gl, kx_pI, kx_pL, kx_pR, kx_pA, kx_pV, kx_s1, kx_s2, kx_sl, kx_pre, kx_c2, kx_pl, kx_cmp, kx_oF, kx_eqN, kx_nil, kx_c1, kx_ft, kx_aI, kx_aL, kx_aR, kx_ln, Nat.reduceAdd, Option.toList, List.cons_append, List.nil_append, cf8_2, cf8_8, cf8_1, cf8_0])
        repeat' apply And.intro
        all_goals try (first | with_reducible assumption | (with_reducible refine ck_nzI ?_; simp; done) | (with_reducible refine ck_nzL ?_; simp; done) | (with_reducible refine vp_in_nI ?_ ?_ <;> first | omega | decide) | (with_reducible refine Nat.le_of_ble_eq_true ?_; rfl) | omega | exact Or.inl trivial | exact Or.inr trivial | exact Or.inl rfl | exact Or.inr rfl)
        refine hC.1 46 _ _ _ _ _ _ _ 8 _ _ _ _ _ _ _ _ _ _ _ _ lX8_46 (ct_X8_skip0 l G (F := upd (upd F 8 (nI a)) 2 (nI b)) (x := x) hT (n := n) (a := b) (by simp only [pk_un, ne_eq, Nat.reduceEqDiff, not_false_eq_true]; exact h1) hn pk_us (by omega)) ⟨by decide, rfl⟩ (cx_8o) rfl rfl (Nat.le_of_ble_eq_true rfl) (by first | decide | omega) (by decide) (by omega) (by omega) dX8_takeNumber_106 ?_
        refine hB bX8_takeNumber_109 _ _ _ _ _ _ _ kX8_takeNumber_109 ?_
        dsimp only [bX8_takeNumber_109, kx_wp, kx_step, kx_lI, kx_lL, kx_lA, kx_gl, kx_pI, kx_pL, kx_pR, kx_pA, kx_pV, kx_s1, kx_s2, kx_sl, kx_pre, kx_c2, kx_pl, kx_cmp, kx_oF, kx_eqN, kx_nil, kx_c1, kx_ft, kx_aI, kx_aL, kx_aR, kx_ln, Nat.reduceAdd, Option.toList, List.cons_append, List.nil_append, cf8_2, cf8_8, cf8_1, cf8_0]
        repeat (simp only [pk_us, pk_un, kz_uu, ne_eq, Nat.reduceEqDiff, not_false_eq_true, nI_1, cx_8s, cx_8ss, cx_8o, cx_8n (show ¬ (67:Nat) = 68 by decide), h1, hT, cp8_8, cp8_2, ks_eq, ks_ss, nI_clamp (show b < 2 ^ 31 by omega)]; try dsimp only [kx_wp, kx_step, kx_lI, kx_lL, kx_lA, kx_gl, kx_pI, kx_pL, kx_pR, kx_pA, kx_pV, kx_s1, kx_s2, kx_sl, kx_pre, kx_c2, kx_pl, kx_cmp, kx_oF, kx_eqN, kx_nil, kx_c1, kx_ft, kx_aI, kx_aL, kx_aR, kx_ln, Nat.reduceAdd, Option.toList, List.cons_append, List.nil_append, cf8_2, cf8_8, cf8_1, cf8_0])
        repeat' apply And.intro
        all_goals try (first | with_reducible assumption | (with_reducible refine ck_nzI ?_; simp; done) | (with_reducible refine ck_nzL ?_; simp; done) | (with_reducible refine vp_in_nI ?_ ?_ <;> first | omega | decide) | (with_reducible refine Nat.le_of_ble_eq_true ?_; rfl) | omega | exact Or.inl trivial | exact Or.inr trivial | exact Or.inl rfl | exact Or.inr rfl)
        · intro zc111
          with_reducible first | have ze111 := Int32.not_le.mpr zc111 | have ze111 := zc111
          refine hB bX8_takeNumber_119 _ _ _ _ _ _ _ kX8_takeNumber_119 ?_
          dsimp only [bX8_takeNumber_119, kx_wp, kx_step, kx_lI, kx_lL, kx_lA, kx_gl, kx_pI, kx_pL, kx_pR, kx_pA, kx_pV, kx_s1, kx_s2, kx_sl, kx_pre, kx_c2, kx_pl, kx_cmp, kx_oF, kx_eqN, kx_nil, kx_c1, kx_ft, kx_aI, kx_aL, kx_aR, kx_ln, Nat.reduceAdd, Option.toList, List.cons_append, List.nil_append, cf8_2, cf8_8, cf8_1, cf8_0]
          repeat (simp only [pk_us, pk_un, kz_uu, ne_eq, Nat.reduceEqDiff, not_false_eq_true, nI_1, cx_8s, cx_8ss, cx_8o, cx_8n (show ¬ (67:Nat) = 68 by decide), h1, hT, cp8_8, cp8_2, ks_eq, ks_ss, nI_clamp (show b < 2 ^ 31 by omega)]; try dsimp only [kx_wp, kx_step, kx_lI, kx_lL, kx_lA, kx_gl, kx_pI, kx_pL, kx_pR, kx_pA, kx_pV, kx_s1, kx_s2, kx_sl, kx_pre, kx_c2, kx_pl, kx_cmp, kx_oF, kx_eqN, kx_nil, kx_c1, kx_ft, kx_aI, kx_aL, kx_aR, kx_ln, Nat.reduceAdd, Option.toList, List.cons_append, List.nil_append, cf8_2, cf8_8, cf8_1, cf8_0])
          repeat' apply And.intro
          all_goals try (first | with_reducible assumption | (with_reducible refine ck_nzI ?_; simp; done) | (with_reducible refine ck_nzL ?_; simp; done) | (with_reducible refine vp_in_nI ?_ ?_ <;> first | omega | decide) | (with_reducible refine Nat.le_of_ble_eq_true ?_; rfl) | omega | exact Or.inl trivial | exact Or.inr trivial | exact Or.inl rfl | exact Or.inr rfl)
          refine hC.1 58 _ _ _ _ _ _ _ 8 _ _ _ _ _ _ _ _ _ _ _ _ lX8_58 (ct_X8_refuse l G) ⟨by decide, rfl⟩ (cx_8o) rfl rfl (Nat.le_of_ble_eq_true rfl) (by first | decide | omega) (by decide) (by omega) (by omega) dX8_takeNumber_125 ?_
          refine hB bX8_takeNumber_128 _ _ _ _ _ _ _ kX8_takeNumber_128 ?_
          dsimp only [bX8_takeNumber_128, kx_wp, kx_step, kx_lI, kx_lL, kx_lA, kx_gl, kx_pI, kx_pL, kx_pR, kx_pA, kx_pV, kx_s1, kx_s2, kx_sl, kx_pre, kx_c2, kx_pl, kx_cmp, kx_oF, kx_eqN, kx_nil, kx_c1, kx_ft, kx_aI, kx_aL, kx_aR, kx_ln, Nat.reduceAdd, Option.toList, List.cons_append, List.nil_append, cf8_2, cf8_8, cf8_1, cf8_0]
          repeat (simp only [pk_us, pk_un, kz_uu, ne_eq, Nat.reduceEqDiff, not_false_eq_true, nI_1, cx_8s, cx_8ss, cx_8o, cx_8n (show ¬ (67:Nat) = 68 by decide), h1, hT, cp8_8, cp8_2, ks_eq, ks_ss, nI_clamp (show b < 2 ^ 31 by omega)]; try dsimp only [kx_wp, kx_step, kx_lI, kx_lL, kx_lA, kx_gl, kx_pI, kx_pL, kx_pR, kx_pA, kx_pV, kx_s1, kx_s2, kx_sl, kx_pre, kx_c2, kx_pl, kx_cmp, kx_oF, kx_eqN, kx_nil, kx_c1, kx_ft, kx_aI, kx_aL, kx_aR, kx_ln, Nat.reduceAdd, Option.toList, List.cons_append, List.nil_append, cf8_2, cf8_8, cf8_1, cf8_0])
          all_goals (repeat' apply And.intro)
          all_goals first | exact True.intro | rfl | (simp only [cx_nv, zq, zc37, ze37, zc111, ze111, ↓reduceIte, true_and, and_true, and_false, false_and, and_self, not_true_eq_false, not_false_eq_true]; done) | (simp only [cx_nF, zq, zc37, ze37, zc111, ze111, ↓reduceIte, true_and, and_true, and_false, false_and, and_self, not_true_eq_false, not_false_eq_true]; done)
        · intro zc111
          with_reducible first | have ze111 := Int32.not_lt.mp zc111 | have ze111 := zc111
          refine hB bX8_takeNumber_114 _ _ _ _ _ _ _ kX8_takeNumber_114 ?_
          dsimp only [bX8_takeNumber_114, kx_wp, kx_step, kx_lI, kx_lL, kx_lA, kx_gl, kx_pI, kx_pL, kx_pR, kx_pA, kx_pV, kx_s1, kx_s2, kx_sl, kx_pre, kx_c2, kx_pl, kx_cmp, kx_oF, kx_eqN, kx_nil, kx_c1, kx_ft, kx_aI, kx_aL, kx_aR, kx_ln, Nat.reduceAdd, Option.toList, List.cons_append, List.nil_append, cf8_2, cf8_8, cf8_1, cf8_0]
          repeat (simp only [pk_us, pk_un, kz_uu, ne_eq, Nat.reduceEqDiff, not_false_eq_true, nI_1, cx_8s, cx_8ss, cx_8o, cx_8n (show ¬ (67:Nat) = 68 by decide), h1, hT, cp8_8, cp8_2, ks_eq, ks_ss, nI_clamp (show b < 2 ^ 31 by omega)]; try dsimp only [kx_wp, kx_step, kx_lI, kx_lL, kx_lA, kx_gl, kx_pI, kx_pL, kx_pR, kx_pA, kx_pV, kx_s1, kx_s2, kx_sl, kx_pre, kx_c2, kx_pl, kx_cmp, kx_oF, kx_eqN, kx_nil, kx_c1, kx_ft, kx_aI, kx_aL, kx_aR, kx_ln, Nat.reduceAdd, Option.toList, List.cons_append, List.nil_append, cf8_2, cf8_8, cf8_1, cf8_0])
          repeat' apply And.intro
          all_goals try (first | with_reducible assumption | (with_reducible refine ck_nzI ?_; simp; done) | (with_reducible refine ck_nzL ?_; simp; done) | (with_reducible refine vp_in_nI ?_ ?_ <;> first | omega | decide) | (with_reducible refine Nat.le_of_ble_eq_true ?_; rfl) | omega | exact Or.inl trivial | exact Or.inr trivial | exact Or.inl rfl | exact Or.inr rfl)
          · intro zc116
            with_reducible first | have ze116 := Int32.not_lt.mpr zc116 | have ze116 := zc116
            refine hB bX8_takeNumber_131 _ _ _ _ _ _ _ kX8_takeNumber_131 ?_
            dsimp only [bX8_takeNumber_131, kx_wp, kx_step, kx_lI, kx_lL, kx_lA, kx_gl, kx_pI, kx_pL, kx_pR, kx_pA, kx_pV, kx_s1, kx_s2, kx_sl, kx_pre, kx_c2, kx_pl, kx_cmp, kx_oF, kx_eqN, kx_nil, kx_c1, kx_ft, kx_aI, kx_aL, kx_aR, kx_ln, Nat.reduceAdd, Option.toList, List.cons_append, List.nil_append, cf8_2, cf8_8, cf8_1, cf8_0]
            repeat (simp only [pk_us, pk_un, kz_uu, ne_eq, Nat.reduceEqDiff, not_false_eq_true, nI_1, cx_8s, cx_8ss, cx_8o, cx_8n (show ¬ (67:Nat) = 68 by decide), h1, hT, cp8_8, cp8_2, ks_eq, ks_ss, nI_clamp (show b < 2 ^ 31 by omega)]; try dsimp only [kx_wp, kx_step, kx_lI, kx_lL, kx_lA, kx_gl, kx_pI, kx_pL, kx_pR, kx_pA, kx_pV, kx_s1, kx_s2, kx_sl, kx_pre, kx_c2, kx_pl, kx_cmp, kx_oF, kx_eqN, kx_nil, kx_c1, kx_ft, kx_aI, kx_aL, kx_aR, kx_ln, Nat.reduceAdd, Option.toList, List.cons_append, List.nil_append, cf8_2, cf8_8, cf8_1, cf8_0])
            all_goals (repeat' apply And.intro)
            all_goals first | exact True.intro | rfl | (simp only [cx_nv, zq, zc37, ze37, zc111, ze111, zc116, ze116, ↓reduceIte, true_and, and_true, and_false, false_and, and_self, not_true_eq_false, not_false_eq_true]; done) | (simp only [cx_nF, zq, zc37, ze37, zc111, ze111, zc116, ze116, ↓reduceIte, true_and, and_true, and_false, false_and, and_self, not_true_eq_false, not_false_eq_true]; done)
          · intro zc116
            with_reducible first | have ze116 := Int32.not_le.mp zc116 | have ze116 := zc116
            refine hB bX8_takeNumber_119 _ _ _ _ _ _ _ kX8_takeNumber_119 ?_
            dsimp only [bX8_takeNumber_119, kx_wp, kx_step, kx_lI, kx_lL, kx_lA, kx_gl, kx_pI, kx_pL, kx_pR, kx_pA, kx_pV, kx_s1, kx_s2, kx_sl, kx_pre, kx_c2, kx_pl, kx_cmp, kx_oF, kx_eqN, kx_nil, kx_c1, kx_ft, kx_aI, kx_aL, kx_aR, kx_ln, Nat.reduceAdd, Option.toList, List.cons_append, List.nil_append, cf8_2, cf8_8, cf8_1, cf8_0]
            repeat (simp only [pk_us, pk_un, kz_uu, ne_eq, Nat.reduceEqDiff, not_false_eq_true, nI_1, cx_8s, cx_8ss, cx_8o, cx_8n (show ¬ (67:Nat) = 68 by decide), h1, hT, cp8_8, cp8_2, ks_eq, ks_ss, nI_clamp (show b < 2 ^ 31 by omega)]; try dsimp only [kx_wp, kx_step, kx_lI, kx_lL, kx_lA, kx_gl, kx_pI, kx_pL, kx_pR, kx_pA, kx_pV, kx_s1, kx_s2, kx_sl, kx_pre, kx_c2, kx_pl, kx_cmp, kx_oF, kx_eqN, kx_nil, kx_c1, kx_ft, kx_aI, kx_aL, kx_aR, kx_ln, Nat.reduceAdd, Option.toList, List.cons_append, List.nil_append, cf8_2, cf8_8, cf8_1, cf8_0])
            repeat' apply And.intro
            all_goals try (first | with_reducible assumption | (with_reducible refine ck_nzI ?_; simp; done) | (with_reducible refine ck_nzL ?_; simp; done) | (with_reducible refine vp_in_nI ?_ ?_ <;> first | omega | decide) | (with_reducible refine Nat.le_of_ble_eq_true ?_; rfl) | omega | exact Or.inl trivial | exact Or.inr trivial | exact Or.inl rfl | exact Or.inr rfl)
            refine hC.1 58 _ _ _ _ _ _ _ 8 _ _ _ _ _ _ _ _ _ _ _ _ lX8_58 (ct_X8_refuse l G) ⟨by decide, rfl⟩ (cx_8o) rfl rfl (Nat.le_of_ble_eq_true rfl) (by first | decide | omega) (by decide) (by omega) (by omega) dX8_takeNumber_125 ?_
            refine hB bX8_takeNumber_128 _ _ _ _ _ _ _ kX8_takeNumber_128 ?_
            dsimp only [bX8_takeNumber_128, kx_wp, kx_step, kx_lI, kx_lL, kx_lA, kx_gl, kx_pI, kx_pL, kx_pR, kx_pA, kx_pV, kx_s1, kx_s2, kx_sl, kx_pre, kx_c2, kx_pl, kx_cmp, kx_oF, kx_eqN, kx_nil, kx_c1, kx_ft, kx_aI, kx_aL, kx_aR, kx_ln, Nat.reduceAdd, Option.toList, List.cons_append, List.nil_append, cf8_2, cf8_8, cf8_1, cf8_0]
            repeat (simp only [pk_us, pk_un, kz_uu, ne_eq, Nat.reduceEqDiff, not_false_eq_true, nI_1, cx_8s, cx_8ss, cx_8o, cx_8n (show ¬ (67:Nat) = 68 by decide), h1, hT, cp8_8, cp8_2, ks_eq, ks_ss, nI_clamp (show b < 2 ^ 31 by omega)]; try dsimp only [kx_wp, kx_step, kx_lI, kx_lL, kx_lA, kx_gl, kx_pI, kx_pL, kx_pR, kx_pA, kx_pV, kx_s1, kx_s2, kx_sl, kx_pre, kx_c2, kx_pl, kx_cmp, kx_oF, kx_eqN, kx_nil, kx_c1, kx_ft, kx_aI, kx_aL, kx_aR, kx_ln, Nat.reduceAdd, Option.toList, List.cons_append, List.nil_append, cf8_2, cf8_8, cf8_1, cf8_0])
            all_goals (repeat' apply And.intro)
            all_goals first | exact True.intro | rfl | (simp only [cx_nv, zq, zc37, ze37, zc111, ze111, zc116, ze116, ↓reduceIte, true_and, and_true, and_false, false_and, and_self, not_true_eq_false, not_false_eq_true]; done) | (simp only [cx_nF, zq, zc37, ze37, zc111, ze111, zc116, ze116, ↓reduceIte, true_and, and_true, and_false, false_and, and_self, not_true_eq_false, not_false_eq_true]; done)
      · intro zc37
        first | exact absurd rfl zc37 | exact absurd zc37 (by decide) | exact absurd (by decide) zc37 | (exfalso; first | exact absurd ((nI_leI (a := n) (b := b) (by omega) (by omega)).mp zc37) (by omega) | exact absurd ((nI_leI (a := n) (b := b) (by omega) (by omega)).mpr (by omega)) zc37) | (exfalso; simp_all; done)
    | succ n9 ih =>
      intro b v hb he
      have he2 : (if 48 ≤ T b ∧ T b ≤ 57 then cx_dgf T n9 (b + 1) (cj_min 100000 (10 * v + T b - 48)) else (v, b)) = cx_dgf T (n - a) a 0 := he
      refine hB bX8_takeNumber_29 _ _ _ _ _ _ _ kX8_takeNumber_29 ?_
      dsimp only [bX8_takeNumber_29, kx_wp, kx_step, kx_lI, kx_lL, kx_lA, kx_gl, kx_pI, kx_pL, kx_pR, kx_pA, kx_pV, kx_s1, kx_s2, kx_sl, kx_pre, kx_c2, kx_pl, kx_cmp, kx_oF, kx_eqN, kx_nil, kx_c1, kx_ft, kx_aI, kx_aL, kx_aR, kx_ln, Nat.reduceAdd, Option.toList, List.cons_append, List.nil_append, cf8_2, cf8_8, cf8_1, cf8_0]
      repeat (simp only [pk_us, pk_un, kz_uu, ne_eq, Nat.reduceEqDiff, not_false_eq_true, nI_1, cx_8s, cx_8ss, cx_8o, cx_8n (show ¬ (67:Nat) = 68 by decide), h1, hT, cp8_8, cp8_2, ks_eq, ks_ss, nI_clamp (show b < 2 ^ 31 by omega)]; try dsimp only [kx_wp, kx_step, kx_lI, kx_lL, kx_lA, kx_gl, kx_pI, kx_pL, kx_pR, kx_pA, kx_pV, kx_s1, kx_s2, kx_sl, kx_pre, kx_c2, kx_pl, kx_cmp, kx_oF, kx_eqN, kx_nil, kx_c1, kx_ft, kx_aI, kx_aL, kx_aR, kx_ln, Nat.reduceAdd, Option.toList, List.cons_append, List.nil_append, cf8_2, cf8_8, cf8_1, cf8_0])
      repeat' apply And.intro
      all_goals try (first | with_reducible assumption | (with_reducible refine ck_nzI ?_; simp; done) | (with_reducible refine ck_nzL ?_; simp; done) | (with_reducible refine vp_in_nI ?_ ?_ <;> first | omega | decide) | (with_reducible refine Nat.le_of_ble_eq_true ?_; rfl) | omega | exact Or.inl trivial | exact Or.inr trivial | exact Or.inl rfl | exact Or.inr rfl)
      · intro zc37
        first | exact absurd rfl zc37 | exact absurd zc37 (by decide) | exact absurd (by decide) zc37 | (exfalso; first | exact absurd ((nI_leI (a := n) (b := b) (by omega) (by omega)).mp zc37) (by omega) | exact absurd ((nI_leI (a := n) (b := b) (by omega) (by omega)).mpr (by omega)) zc37) | (exfalso; simp_all; done)
      · intro zc37
        with_reducible first | have ze37 := Int32.not_le.mp zc37 | have ze37 := zc37
        refine hB bX8_takeNumber_40 _ _ _ _ _ _ _ kX8_takeNumber_40 ?_
        dsimp only [bX8_takeNumber_40, kx_wp, kx_step, kx_lI, kx_lL, kx_lA, kx_gl, kx_pI, kx_pL, kx_pR, kx_pA, kx_pV, kx_s1, kx_s2, kx_sl, kx_pre, kx_c2, kx_pl, kx_cmp, kx_oF, kx_eqN, kx_nil, kx_c1, kx_ft, kx_aI, kx_aL, kx_aR, kx_ln, Nat.reduceAdd, Option.toList, List.cons_append, List.nil_append, cf8_2, cf8_8, cf8_1, cf8_0]
        repeat (simp only [pk_us, pk_un, kz_uu, ne_eq, Nat.reduceEqDiff, not_false_eq_true, nI_1, cx_8s, cx_8ss, cx_8o, cx_8n (show ¬ (67:Nat) = 68 by decide), h1, hT, cp8_8, cp8_2, ks_eq, ks_ss, nI_clamp (show b < 2 ^ 31 by omega)]; try dsimp only [kx_wp, kx_step, kx_lI, kx_lL, kx_lA, kx_gl, kx_pI, kx_pL, kx_pR, kx_pA, kx_pV, kx_s1, kx_s2, kx_sl, kx_pre, kx_c2, kx_pl, kx_cmp, kx_oF, kx_eqN, kx_nil, kx_c1, kx_ft, kx_aI, kx_aL, kx_aR, kx_ln, Nat.reduceAdd, Option.toList, List.cons_append, List.nil_append, cf8_2, cf8_8, cf8_1, cf8_0])
        repeat' apply And.intro
        all_goals try (first | with_reducible assumption | (with_reducible refine ck_nzI ?_; simp; done) | (with_reducible refine ck_nzL ?_; simp; done) | (with_reducible refine vp_in_nI ?_ ?_ <;> first | omega | decide) | (with_reducible refine Nat.le_of_ble_eq_true ?_; rfl) | omega | exact Or.inl trivial | exact Or.inr trivial | exact Or.inl rfl | exact Or.inr rfl)
        · intro zc51
          with_reducible first | have ze51 := Int32.not_le.mpr zc51 | have ze51 := zc51
          have zq : cx_dgf T (n - a) a 0 = (v, b) := (by first | exact he.symm | (rw [if_neg (fun q => ze51 q.1)] at he2; exact he2.symm) | (rw [if_neg (fun q => ze65 q.2)] at he2; exact he2.symm))
          refine hB bX8_takeNumber_104 _ _ _ _ _ _ _ kX8_takeNumber_104 ?_
          dsimp only [bX8_takeNumber_104, kx_wp, kx_step, kx_lI, kx_lL, kx_lA, kx_gl, kx_pI, kx_pL, kx_pR, kx_pA, kx_pV, kx_s1, kx_s2, kx_sl, kx_pre, kx_c2, kx_pl, kx_cmp, kx_oF, kx_eqN, kx_nil, kx_c1, kx_ft, kx_aI, kx_aL, kx_aR, kx_ln, Nat.reduceAdd, Option.toList, List.cons_append, List.nil_append, cf8_2, cf8_8, cf8_1, cf8_0]
          repeat (simp only [pk_us, pk_un, kz_uu, ne_eq, Nat.reduceEqDiff, not_false_eq_true, nI_1, cx_8s, cx_8ss, cx_8o, cx_8n (show ¬ (67:Nat) = 68 by decide), h1, hT, cp8_8, cp8_2, ks_eq, ks_ss, nI_clamp (show b < 2 ^ 31 by omega)]; try dsimp only [kx_wp, kx_step, kx_lI, kx_lL, kx_lA, kx_gl, kx_pI, kx_pL, kx_pR, kx_pA, kx_pV, kx_s1, kx_s2, kx_sl, kx_pre, kx_c2, kx_pl, kx_cmp, kx_oF, kx_eqN, kx_nil, kx_c1, kx_ft, kx_aI, kx_aL, kx_aR, kx_ln, Nat.reduceAdd, Option.toList, List.cons_append, List.nil_append, cf8_2, cf8_8, cf8_1, cf8_0])
          repeat' apply And.intro
          all_goals try (first | with_reducible assumption | (with_reducible refine ck_nzI ?_; simp; done) | (with_reducible refine ck_nzL ?_; simp; done) | (with_reducible refine vp_in_nI ?_ ?_ <;> first | omega | decide) | (with_reducible refine Nat.le_of_ble_eq_true ?_; rfl) | omega | exact Or.inl trivial | exact Or.inr trivial | exact Or.inl rfl | exact Or.inr rfl)
          refine hC.1 46 _ _ _ _ _ _ _ 8 _ _ _ _ _ _ _ _ _ _ _ _ lX8_46 (ct_X8_skip0 l G (F := upd (upd F 8 (nI a)) 2 (nI b)) (x := x) hT (n := n) (a := b) (by simp only [pk_un, ne_eq, Nat.reduceEqDiff, not_false_eq_true]; exact h1) hn pk_us (by omega)) ⟨by decide, rfl⟩ (cx_8o) rfl rfl (Nat.le_of_ble_eq_true rfl) (by first | decide | omega) (by decide) (by omega) (by omega) dX8_takeNumber_106 ?_
          refine hB bX8_takeNumber_109 _ _ _ _ _ _ _ kX8_takeNumber_109 ?_
          dsimp only [bX8_takeNumber_109, kx_wp, kx_step, kx_lI, kx_lL, kx_lA, kx_gl, kx_pI, kx_pL, kx_pR, kx_pA, kx_pV, kx_s1, kx_s2, kx_sl, kx_pre, kx_c2, kx_pl, kx_cmp, kx_oF, kx_eqN, kx_nil, kx_c1, kx_ft, kx_aI, kx_aL, kx_aR, kx_ln, Nat.reduceAdd, Option.toList, List.cons_append, List.nil_append, cf8_2, cf8_8, cf8_1, cf8_0]
          repeat (simp only [pk_us, pk_un, kz_uu, ne_eq, Nat.reduceEqDiff, not_false_eq_true, nI_1, cx_8s, cx_8ss, cx_8o, cx_8n (show ¬ (67:Nat) = 68 by decide), h1, hT, cp8_8, cp8_2, ks_eq, ks_ss, nI_clamp (show b < 2 ^ 31 by omega)]; try dsimp only [kx_wp, kx_step, kx_lI, kx_lL, kx_lA, kx_gl, kx_pI, kx_pL, kx_pR, kx_pA, kx_pV, kx_s1, kx_s2, kx_sl, kx_pre, kx_c2, kx_pl, kx_cmp, kx_oF, kx_eqN, kx_nil, kx_c1, kx_ft, kx_aI, kx_aL, kx_aR, kx_ln, Nat.reduceAdd, Option.toList, List.cons_append, List.nil_append, cf8_2, cf8_8, cf8_1, cf8_0])
          repeat' apply And.intro
          all_goals try (first | with_reducible assumption | (with_reducible refine ck_nzI ?_; simp; done) | (with_reducible refine ck_nzL ?_; simp; done) | (with_reducible refine vp_in_nI ?_ ?_ <;> first | omega | decide) | (with_reducible refine Nat.le_of_ble_eq_true ?_; rfl) | omega | exact Or.inl trivial | exact Or.inr trivial | exact Or.inl rfl | exact Or.inr rfl)
          · intro zc111
            with_reducible first | have ze111 := Int32.not_le.mpr zc111 | have ze111 := zc111
            refine hB bX8_takeNumber_119 _ _ _ _ _ _ _ kX8_takeNumber_119 ?_
            dsimp only [bX8_takeNumber_119, kx_wp, kx_step, kx_lI, kx_lL, kx_lA, kx_gl, kx_pI, kx_pL, kx_pR, kx_pA, kx_pV, kx_s1, kx_s2, kx_sl, kx_pre, kx_c2, kx_pl, kx_cmp, kx_oF, kx_eqN, kx_nil, kx_c1, kx_ft, kx_aI, kx_aL, kx_aR, kx_ln, Nat.reduceAdd, Option.toList, List.cons_append, List.nil_append, cf8_2, cf8_8, cf8_1, cf8_0]
            repeat (simp only [pk_us, pk_un, kz_uu, ne_eq, Nat.reduceEqDiff, not_false_eq_true, nI_1, cx_8s, cx_8ss, cx_8o, cx_8n (show ¬ (67:Nat) = 68 by decide), h1, hT, cp8_8, cp8_2, ks_eq, ks_ss, nI_clamp (show b < 2 ^ 31 by omega)]; try dsimp only [kx_wp, kx_step, kx_lI, kx_lL, kx_lA, kx_gl, kx_pI, kx_pL, kx_pR, kx_pA, kx_pV, kx_s1, kx_s2, kx_sl, kx_pre, kx_c2, kx_pl, kx_cmp, kx_oF, kx_eqN, kx_nil, kx_c1, kx_ft, kx_aI, kx_aL, kx_aR, kx_ln, Nat.reduceAdd, Option.toList, List.cons_append, List.nil_append, cf8_2, cf8_8, cf8_1, cf8_0])
            repeat' apply And.intro
            all_goals try (first | with_reducible assumption | (with_reducible refine ck_nzI ?_; simp; done) | (with_reducible refine ck_nzL ?_; simp; done) | (with_reducible refine vp_in_nI ?_ ?_ <;> first | omega | decide) | (with_reducible refine Nat.le_of_ble_eq_true ?_; rfl) | omega | exact Or.inl trivial | exact Or.inr trivial | exact Or.inl rfl | exact Or.inr rfl)
            refine hC.1 58 _ _ _ _ _ _ _ 8 _ _ _ _ _ _ _ _ _ _ _ _ lX8_58 (ct_X8_refuse l G) ⟨by decide, rfl⟩ (cx_8o) rfl rfl (Nat.le_of_ble_eq_true rfl) (by first | decide | omega) (by decide) (by omega) (by omega) dX8_takeNumber_125 ?_
            refine hB bX8_takeNumber_128 _ _ _ _ _ _ _ kX8_takeNumber_128 ?_
            dsimp only [bX8_takeNumber_128, kx_wp, kx_step, kx_lI, kx_lL, kx_lA, kx_gl, kx_pI, kx_pL, kx_pR, kx_pA, kx_pV, kx_s1, kx_s2, kx_sl, kx_pre, kx_c2, kx_pl, kx_cmp, kx_oF, kx_eqN, kx_nil, kx_c1, kx_ft, kx_aI, kx_aL, kx_aR, kx_ln, Nat.reduceAdd, Option.toList, List.cons_append, List.nil_append, cf8_2, cf8_8, cf8_1, cf8_0]
            repeat (simp only [pk_us, pk_un, kz_uu, ne_eq, Nat.reduceEqDiff, not_false_eq_true, nI_1, cx_8s, cx_8ss, cx_8o, cx_8n (show ¬ (67:Nat) = 68 by decide), h1, hT, cp8_8, cp8_2, ks_eq, ks_ss, nI_clamp (show b < 2 ^ 31 by omega)]; try dsimp only [kx_wp, kx_step, kx_lI, kx_lL, kx_lA, kx_gl, kx_pI, kx_pL, kx_pR, kx_pA, kx_pV, kx_s1, kx_s2, kx_sl, kx_pre, kx_c2, kx_pl, kx_cmp, kx_oF, kx_eqN, kx_nil, kx_c1, kx_ft, kx_aI, kx_aL, kx_aR, kx_ln, Nat.reduceAdd, Option.toList, List.cons_append, List.nil_append, cf8_2, cf8_8, cf8_1, cf8_0])
            all_goals (repeat' apply And.intro)
            all_goals first | exact True.intro | rfl | (simp only [cx_nv, zq, zc37, ze37, zc51, ze51, zc111, ze111, ↓reduceIte, true_and, and_true, and_false, false_and, and_self, not_true_eq_false, not_false_eq_true]; done) | (simp only [cx_nF, zq, zc37, ze37, zc51, ze51, zc111, ze111, ↓reduceIte, true_and, and_true, and_false, false_and, and_self, not_true_eq_false, not_false_eq_true]; done)
          · intro zc111
            with_reducible first | have ze111 := Int32.not_lt.mp zc111 | have ze111 := zc111
            refine hB bX8_takeNumber_114 _ _ _ _ _ _ _ kX8_takeNumber_114 ?_
            dsimp only [bX8_takeNumber_114, kx_wp, kx_step, kx_lI, kx_lL, kx_lA, kx_gl, kx_pI, kx_pL, kx_pR, kx_pA, kx_pV, kx_s1, kx_s2, kx_sl, kx_pre, kx_c2, kx_pl, kx_cmp, kx_oF, kx_eqN, kx_nil, kx_c1, kx_ft, kx_aI, kx_aL, kx_aR, kx_ln, Nat.reduceAdd, Option.toList, List.cons_append, List.nil_append, cf8_2, cf8_8, cf8_1, cf8_0]
            repeat (simp only [pk_us, pk_un, kz_uu, ne_eq, Nat.reduceEqDiff, not_false_eq_true, nI_1, cx_8s, cx_8ss, cx_8o, cx_8n (show ¬ (67:Nat) = 68 by decide), h1, hT, cp8_8, cp8_2, ks_eq, ks_ss, nI_clamp (show b < 2 ^ 31 by omega)]; try dsimp only [kx_wp, kx_step, kx_lI, kx_lL, kx_lA, kx_gl, kx_pI, kx_pL, kx_pR, kx_pA, kx_pV, kx_s1, kx_s2, kx_sl, kx_pre, kx_c2, kx_pl, kx_cmp, kx_oF, kx_eqN, kx_nil, kx_c1, kx_ft, kx_aI, kx_aL, kx_aR, kx_ln, Nat.reduceAdd, Option.toList, List.cons_append, List.nil_append, cf8_2, cf8_8, cf8_1, cf8_0])
            repeat' apply And.intro
            all_goals try (first | with_reducible assumption | (with_reducible refine ck_nzI ?_; simp; done) | (with_reducible refine ck_nzL ?_; simp; done) | (with_reducible refine vp_in_nI ?_ ?_ <;> first | omega | decide) | (with_reducible refine Nat.le_of_ble_eq_true ?_; rfl) | omega | exact Or.inl trivial | exact Or.inr trivial | exact Or.inl rfl | exact Or.inr rfl)
            · intro zc116
              with_reducible first | have ze116 := Int32.not_lt.mpr zc116 | have ze116 := zc116
              refine hB bX8_takeNumber_131 _ _ _ _ _ _ _ kX8_takeNumber_131 ?_
              dsimp only [bX8_takeNumber_131, kx_wp, kx_step, kx_lI, kx_lL, kx_lA, kx_gl, kx_pI, kx_pL, kx_pR, kx_pA, kx_pV, kx_s1, kx_s2, kx_sl, kx_pre, kx_c2, kx_pl, kx_cmp, kx_oF, kx_eqN, kx_nil, kx_c1, kx_ft, kx_aI, kx_aL, kx_aR, kx_ln, Nat.reduceAdd, Option.toList, List.cons_append, List.nil_append, cf8_2, cf8_8, cf8_1, cf8_0]
              repeat (simp only [pk_us, pk_un, kz_uu, ne_eq, Nat.reduceEqDiff, not_false_eq_true, nI_1, cx_8s, cx_8ss, cx_8o, cx_8n (show ¬ (67:Nat) = 68 by decide), h1, hT, cp8_8, cp8_2, ks_eq, ks_ss, nI_clamp (show b < 2 ^ 31 by omega)]; try dsimp only [kx_wp, kx_step, kx_lI, kx_lL, kx_lA, kx_gl, kx_pI, kx_pL, kx_pR, kx_pA, kx_pV, kx_s1, kx_s2, kx_sl, kx_pre, kx_c2, kx_pl, kx_cmp, kx_oF, kx_eqN, kx_nil, kx_c1, kx_ft, kx_aI, kx_aL, kx_aR, kx_ln, Nat.reduceAdd, Option.toList, List.cons_append, List.nil_append, cf8_2, cf8_8, cf8_1, cf8_0])
              all_goals (repeat' apply And.intro)
              all_goals first | exact True.intro | rfl | (simp only [cx_nv, zq, zc37, ze37, zc51, ze51, zc111, ze111, zc116, ze116, ↓reduceIte, true_and, and_true, and_false, false_and, and_self, not_true_eq_false, not_false_eq_true]; done) | (simp only [cx_nF, zq, zc37, ze37, zc51, ze51, zc111, ze111, zc116, ze116, ↓reduceIte, true_and, and_true, and_false, false_and, and_self, not_true_eq_false, not_false_eq_true]; done)
            · intro zc116
              with_reducible first | have ze116 := Int32.not_le.mp zc116 | have ze116 := zc116
              refine hB bX8_takeNumber_119 _ _ _ _ _ _ _ kX8_takeNumber_119 ?_
              dsimp only [bX8_takeNumber_119, kx_wp, kx_step, kx_lI, kx_lL, kx_lA, kx_gl, kx_pI, kx_pL, kx_pR, kx_pA, kx_pV, kx_s1, kx_s2, kx_sl, kx_pre, kx_c2, kx_pl, kx_cmp, kx_oF, kx_eqN, kx_nil, kx_c1, kx_ft, kx_aI, kx_aL, kx_aR, kx_ln, Nat.reduceAdd, Option.toList, List.cons_append, List.nil_append, cf8_2, cf8_8, cf8_1, cf8_0]
              repeat (simp only [pk_us, pk_un, kz_uu, ne_eq, Nat.reduceEqDiff, not_false_eq_true, nI_1, cx_8s, cx_8ss, cx_8o, cx_8n (show ¬ (67:Nat) = 68 by decide), h1, hT, cp8_8, cp8_2, ks_eq, ks_ss, nI_clamp (show b < 2 ^ 31 by omega)]; try dsimp only [kx_wp, kx_step, kx_lI, kx_lL, kx_lA, kx_gl, kx_pI, kx_pL, kx_pR, kx_pA, kx_pV, kx_s1, kx_s2, kx_sl, kx_pre, kx_c2, kx_pl, kx_cmp, kx_oF, kx_eqN, kx_nil, kx_c1, kx_ft, kx_aI, kx_aL, kx_aR, kx_ln, Nat.reduceAdd, Option.toList, List.cons_append, List.nil_append, cf8_2, cf8_8, cf8_1, cf8_0])
              repeat' apply And.intro
              all_goals try (first | with_reducible assumption | (with_reducible refine ck_nzI ?_; simp; done) | (with_reducible refine ck_nzL ?_; simp; done) | (with_reducible refine vp_in_nI ?_ ?_ <;> first | omega | decide) | (with_reducible refine Nat.le_of_ble_eq_true ?_; rfl) | omega | exact Or.inl trivial | exact Or.inr trivial | exact Or.inl rfl | exact Or.inr rfl)
              refine hC.1 58 _ _ _ _ _ _ _ 8 _ _ _ _ _ _ _ _ _ _ _ _ lX8_58 (ct_X8_refuse l G) ⟨by decide, rfl⟩ (cx_8o) rfl rfl (Nat.le_of_ble_eq_true rfl) (by first | decide | omega) (by decide) (by omega) (by omega) dX8_takeNumber_125 ?_
              refine hB bX8_takeNumber_128 _ _ _ _ _ _ _ kX8_takeNumber_128 ?_
              dsimp only [bX8_takeNumber_128, kx_wp, kx_step, kx_lI, kx_lL, kx_lA, kx_gl, kx_pI, kx_pL, kx_pR, kx_pA, kx_pV, kx_s1, kx_s2, kx_sl, kx_pre, kx_c2, kx_pl, kx_cmp, kx_oF, kx_eqN, kx_nil, kx_c1, kx_ft, kx_aI, kx_aL, kx_aR, kx_ln, Nat.reduceAdd, Option.toList, List.cons_append, List.nil_append, cf8_2, cf8_8, cf8_1, cf8_0]
              repeat (simp only [pk_us, pk_un, kz_uu, ne_eq, Nat.reduceEqDiff, not_false_eq_true, nI_1, cx_8s, cx_8ss, cx_8o, cx_8n (show ¬ (67:Nat) = 68 by decide), h1, hT, cp8_8, cp8_2, ks_eq, ks_ss, nI_clamp (show b < 2 ^ 31 by omega)]; try dsimp only [kx_wp, kx_step, kx_lI, kx_lL, kx_lA, kx_gl, kx_pI, kx_pL, kx_pR, kx_pA, kx_pV, kx_s1, kx_s2, kx_sl, kx_pre, kx_c2, kx_pl, kx_cmp, kx_oF, kx_eqN, kx_nil, kx_c1, kx_ft, kx_aI, kx_aL, kx_aR, kx_ln, Nat.reduceAdd, Option.toList, List.cons_append, List.nil_append, cf8_2, cf8_8, cf8_1, cf8_0])
              all_goals (repeat' apply And.intro)
              all_goals first | exact True.intro | rfl | (simp only [cx_nv, zq, zc37, ze37, zc51, ze51, zc111, ze111, zc116, ze116, ↓reduceIte, true_and, and_true, and_false, false_and, and_self, not_true_eq_false, not_false_eq_true]; done) | (simp only [cx_nF, zq, zc37, ze37, zc51, ze51, zc111, ze111, zc116, ze116, ↓reduceIte, true_and, and_true, and_false, false_and, and_self, not_true_eq_false, not_false_eq_true]; done)
        · intro zc51
          with_reducible first | have ze51 := Int32.not_lt.mp zc51 | have ze51 := zc51
          refine hB bX8_takeNumber_54 _ _ _ _ _ _ _ kX8_takeNumber_54 ?_
          dsimp only [bX8_takeNumber_54, kx_wp, kx_step, kx_lI, kx_lL, kx_lA, kx_gl, kx_pI, kx_pL, kx_pR, kx_pA, kx_pV, kx_s1, kx_s2, kx_sl, kx_pre, kx_c2, kx_pl, kx_cmp, kx_oF, kx_eqN, kx_nil, kx_c1, kx_ft, kx_aI, kx_aL, kx_aR, kx_ln, Nat.reduceAdd, Option.toList, List.cons_append, List.nil_append, cf8_2, cf8_8, cf8_1, cf8_0]
          repeat (simp only [pk_us, pk_un, kz_uu, ne_eq, Nat.reduceEqDiff, not_false_eq_true, nI_1, cx_8s, cx_8ss, cx_8o, cx_8n (show ¬ (67:Nat) = 68 by decide), h1, hT, cp8_8, cp8_2, ks_eq, ks_ss, nI_clamp (show b < 2 ^ 31 by omega)]; try dsimp only [kx_wp, kx_step, kx_lI, kx_lL, kx_lA, kx_gl, kx_pI, kx_pL, kx_pR, kx_pA, kx_pV, kx_s1, kx_s2, kx_sl, kx_pre, kx_c2, kx_pl, kx_cmp, kx_oF, kx_eqN, kx_nil, kx_c1, kx_ft, kx_aI, kx_aL, kx_aR, kx_ln, Nat.reduceAdd, Option.toList, List.cons_append, List.nil_append, cf8_2, cf8_8, cf8_1, cf8_0])
          repeat' apply And.intro
          all_goals try (first | with_reducible assumption | (with_reducible refine ck_nzI ?_; simp; done) | (with_reducible refine ck_nzL ?_; simp; done) | (with_reducible refine vp_in_nI ?_ ?_ <;> first | omega | decide) | (with_reducible refine Nat.le_of_ble_eq_true ?_; rfl) | omega | exact Or.inl trivial | exact Or.inr trivial | exact Or.inl rfl | exact Or.inr rfl)
          · intro zc65
            with_reducible first | have ze65 := Int32.not_le.mpr zc65 | have ze65 := zc65
            have zq : cx_dgf T (n - a) a 0 = (v, b) := (by first | exact he.symm | (rw [if_neg (fun q => ze51 q.1)] at he2; exact he2.symm) | (rw [if_neg (fun q => ze65 q.2)] at he2; exact he2.symm))
            refine hB bX8_takeNumber_104 _ _ _ _ _ _ _ kX8_takeNumber_104 ?_
            dsimp only [bX8_takeNumber_104, kx_wp, kx_step, kx_lI, kx_lL, kx_lA, kx_gl, kx_pI, kx_pL, kx_pR, kx_pA, kx_pV, kx_s1, kx_s2, kx_sl, kx_pre, kx_c2, kx_pl, kx_cmp, kx_oF, kx_eqN, kx_nil, kx_c1, kx_ft, kx_aI, kx_aL, kx_aR, kx_ln, Nat.reduceAdd, Option.toList, List.cons_append, List.nil_append, cf8_2, cf8_8, cf8_1, cf8_0]
            repeat (simp only [pk_us, pk_un, kz_uu, ne_eq, Nat.reduceEqDiff, not_false_eq_true, nI_1, cx_8s, cx_8ss, cx_8o, cx_8n (show ¬ (67:Nat) = 68 by decide), h1, hT, cp8_8, cp8_2, ks_eq, ks_ss, nI_clamp (show b < 2 ^ 31 by omega)]; try dsimp only [kx_wp, kx_step, kx_lI, kx_lL, kx_lA, kx_gl, kx_pI, kx_pL, kx_pR, kx_pA, kx_pV, kx_s1, kx_s2, kx_sl, kx_pre, kx_c2, kx_pl, kx_cmp, kx_oF, kx_eqN, kx_nil, kx_c1, kx_ft, kx_aI, kx_aL, kx_aR, kx_ln, Nat.reduceAdd, Option.toList, List.cons_append, List.nil_append, cf8_2, cf8_8, cf8_1, cf8_0])
            repeat' apply And.intro
            all_goals try (first | with_reducible assumption | (with_reducible refine ck_nzI ?_; simp; done) | (with_reducible refine ck_nzL ?_; simp; done) | (with_reducible refine vp_in_nI ?_ ?_ <;> first | omega | decide) | (with_reducible refine Nat.le_of_ble_eq_true ?_; rfl) | omega | exact Or.inl trivial | exact Or.inr trivial | exact Or.inl rfl | exact Or.inr rfl)
            refine hC.1 46 _ _ _ _ _ _ _ 8 _ _ _ _ _ _ _ _ _ _ _ _ lX8_46 (ct_X8_skip0 l G (F := upd (upd F 8 (nI a)) 2 (nI b)) (x := x) hT (n := n) (a := b) (by simp only [pk_un, ne_eq, Nat.reduceEqDiff, not_false_eq_true]; exact h1) hn pk_us (by omega)) ⟨by decide, rfl⟩ (cx_8o) rfl rfl (Nat.le_of_ble_eq_true rfl) (by first | decide | omega) (by decide) (by omega) (by omega) dX8_takeNumber_106 ?_
            refine hB bX8_takeNumber_109 _ _ _ _ _ _ _ kX8_takeNumber_109 ?_
            dsimp only [bX8_takeNumber_109, kx_wp, kx_step, kx_lI, kx_lL, kx_lA, kx_gl, kx_pI, kx_pL, kx_pR, kx_pA, kx_pV, kx_s1, kx_s2, kx_sl, kx_pre, kx_c2, kx_pl, kx_cmp, kx_oF, kx_eqN, kx_nil, kx_c1, kx_ft, kx_aI, kx_aL, kx_aR, kx_ln, Nat.reduceAdd, Option.toList, List.cons_append, List.nil_append, cf8_2, cf8_8, cf8_1, cf8_0]
            repeat (simp only [pk_us, pk_un, kz_uu, ne_eq, Nat.reduceEqDiff, not_false_eq_true, nI_1, cx_8s, cx_8ss, cx_8o, cx_8n (show ¬ (67:Nat) = 68 by decide), h1, hT, cp8_8, cp8_2, ks_eq, ks_ss, nI_clamp (show b < 2 ^ 31 by omega)]; try dsimp only [kx_wp, kx_step, kx_lI, kx_lL, kx_lA, kx_gl, kx_pI, kx_pL, kx_pR, kx_pA, kx_pV, kx_s1, kx_s2, kx_sl, kx_pre, kx_c2, kx_pl, kx_cmp, kx_oF, kx_eqN, kx_nil, kx_c1, kx_ft, kx_aI, kx_aL, kx_aR, kx_ln, Nat.reduceAdd, Option.toList, List.cons_append, List.nil_append, cf8_2, cf8_8, cf8_1, cf8_0])
            repeat' apply And.intro
            all_goals try (first | with_reducible assumption | (with_reducible refine ck_nzI ?_; simp; done) | (with_reducible refine ck_nzL ?_; simp; done) | (with_reducible refine vp_in_nI ?_ ?_ <;> first | omega | decide) | (with_reducible refine Nat.le_of_ble_eq_true ?_; rfl) | omega | exact Or.inl trivial | exact Or.inr trivial | exact Or.inl rfl | exact Or.inr rfl)
            · intro zc111
              with_reducible first | have ze111 := Int32.not_le.mpr zc111 | have ze111 := zc111
              refine hB bX8_takeNumber_119 _ _ _ _ _ _ _ kX8_takeNumber_119 ?_
              dsimp only [bX8_takeNumber_119, kx_wp, kx_step, kx_lI, kx_lL, kx_lA, kx_gl, kx_pI, kx_pL, kx_pR, kx_pA, kx_pV, kx_s1, kx_s2, kx_sl, kx_pre, kx_c2, kx_pl, kx_cmp, kx_oF, kx_eqN, kx_nil, kx_c1, kx_ft, kx_aI, kx_aL, kx_aR, kx_ln, Nat.reduceAdd, Option.toList, List.cons_append, List.nil_append, cf8_2, cf8_8, cf8_1, cf8_0]
              repeat (simp only [pk_us, pk_un, kz_uu, ne_eq, Nat.reduceEqDiff, not_false_eq_true, nI_1, cx_8s, cx_8ss, cx_8o, cx_8n (show ¬ (67:Nat) = 68 by decide), h1, hT, cp8_8, cp8_2, ks_eq, ks_ss, nI_clamp (show b < 2 ^ 31 by omega)]; try dsimp only [kx_wp, kx_step, kx_lI, kx_lL, kx_lA, kx_gl, kx_pI, kx_pL, kx_pR, kx_pA, kx_pV, kx_s1, kx_s2, kx_sl, kx_pre, kx_c2, kx_pl, kx_cmp, kx_oF, kx_eqN, kx_nil, kx_c1, kx_ft, kx_aI, kx_aL, kx_aR, kx_ln, Nat.reduceAdd, Option.toList, List.cons_append, List.nil_append, cf8_2, cf8_8, cf8_1, cf8_0])
              repeat' apply And.intro
              all_goals try (first | with_reducible assumption | (with_reducible refine ck_nzI ?_; simp; done) | (with_reducible refine ck_nzL ?_; simp; done) | (with_reducible refine vp_in_nI ?_ ?_ <;> first | omega | decide) | (with_reducible refine Nat.le_of_ble_eq_true ?_; rfl) | omega | exact Or.inl trivial | exact Or.inr trivial | exact Or.inl rfl | exact Or.inr rfl)
              refine hC.1 58 _ _ _ _ _ _ _ 8 _ _ _ _ _ _ _ _ _ _ _ _ lX8_58 (ct_X8_refuse l G) ⟨by decide, rfl⟩ (cx_8o) rfl rfl (Nat.le_of_ble_eq_true rfl) (by first | decide | omega) (by decide) (by omega) (by omega) dX8_takeNumber_125 ?_
              refine hB bX8_takeNumber_128 _ _ _ _ _ _ _ kX8_takeNumber_128 ?_
              dsimp only [bX8_takeNumber_128, kx_wp, kx_step, kx_lI, kx_lL, kx_lA, kx_gl, kx_pI, kx_pL, kx_pR, kx_pA, kx_pV, kx_s1, kx_s2, kx_sl, kx_pre, kx_c2, kx_pl, kx_cmp, kx_oF, kx_eqN, kx_nil, kx_c1, kx_ft, kx_aI, kx_aL, kx_aR, kx_ln, Nat.reduceAdd, Option.toList, List.cons_append, List.nil_append, cf8_2, cf8_8, cf8_1, cf8_0]
              repeat (simp only [pk_us, pk_un, kz_uu, ne_eq, Nat.reduceEqDiff, not_false_eq_true, nI_1, cx_8s, cx_8ss, cx_8o, cx_8n (show ¬ (67:Nat) = 68 by decide), h1, hT, cp8_8, cp8_2, ks_eq, ks_ss, nI_clamp (show b < 2 ^ 31 by omega)]; try dsimp only [kx_wp, kx_step, kx_lI, kx_lL, kx_lA, kx_gl, kx_pI, kx_pL, kx_pR, kx_pA, kx_pV, kx_s1, kx_s2, kx_sl, kx_pre, kx_c2, kx_pl, kx_cmp, kx_oF, kx_eqN, kx_nil, kx_c1, kx_ft, kx_aI, kx_aL, kx_aR, kx_ln, Nat.reduceAdd, Option.toList, List.cons_append, List.nil_append, cf8_2, cf8_8, cf8_1, cf8_0])
              all_goals (repeat' apply And.intro)
              all_goals first | exact True.intro | rfl | (simp only [cx_nv, zq, zc37, ze37, zc51, ze51, zc65, ze65, zc111, ze111, ↓reduceIte, true_and, and_true, and_false, false_and, and_self, not_true_eq_false, not_false_eq_true]; done) | (simp only [cx_nF, zq, zc37, ze37, zc51, ze51, zc65, ze65, zc111, ze111, ↓reduceIte, true_and, and_true, and_false, false_and, and_self, not_true_eq_false, not_false_eq_true]; done)
            · intro zc111
              with_reducible first | have ze111 := Int32.not_lt.mp zc111 | have ze111 := zc111
              refine hB bX8_takeNumber_114 _ _ _ _ _ _ _ kX8_takeNumber_114 ?_
              dsimp only [bX8_takeNumber_114, kx_wp, kx_step, kx_lI, kx_lL, kx_lA, kx_gl, kx_pI, kx_pL, kx_pR, kx_pA, kx_pV, kx_s1, kx_s2, kx_sl, kx_pre, kx_c2, kx_pl, kx_cmp, kx_oF, kx_eqN, kx_nil, kx_c1, kx_ft, kx_aI, kx_aL, kx_aR, kx_ln, Nat.reduceAdd, Option.toList, List.cons_append, List.nil_append, cf8_2, cf8_8, cf8_1, cf8_0]
              repeat (simp only [pk_us, pk_un, kz_uu, ne_eq, Nat.reduceEqDiff, not_false_eq_true, nI_1, cx_8s, cx_8ss, cx_8o, cx_8n (show ¬ (67:Nat) = 68 by decide), h1, hT, cp8_8, cp8_2, ks_eq, ks_ss, nI_clamp (show b < 2 ^ 31 by omega)]; try dsimp only [kx_wp, kx_step, kx_lI, kx_lL, kx_lA, kx_gl, kx_pI, kx_pL, kx_pR, kx_pA, kx_pV, kx_s1, kx_s2, kx_sl, kx_pre, kx_c2, kx_pl, kx_cmp, kx_oF, kx_eqN, kx_nil, kx_c1, kx_ft, kx_aI, kx_aL, kx_aR, kx_ln, Nat.reduceAdd, Option.toList, List.cons_append, List.nil_append, cf8_2, cf8_8, cf8_1, cf8_0])
              repeat' apply And.intro
              all_goals try (first | with_reducible assumption | (with_reducible refine ck_nzI ?_; simp; done) | (with_reducible refine ck_nzL ?_; simp; done) | (with_reducible refine vp_in_nI ?_ ?_ <;> first | omega | decide) | (with_reducible refine Nat.le_of_ble_eq_true ?_; rfl) | omega | exact Or.inl trivial | exact Or.inr trivial | exact Or.inl rfl | exact Or.inr rfl)
              · intro zc116
                with_reducible first | have ze116 := Int32.not_lt.mpr zc116 | have ze116 := zc116
                refine hB bX8_takeNumber_131 _ _ _ _ _ _ _ kX8_takeNumber_131 ?_
                dsimp only [bX8_takeNumber_131, kx_wp, kx_step, kx_lI, kx_lL, kx_lA, kx_gl, kx_pI, kx_pL, kx_pR, kx_pA, kx_pV, kx_s1, kx_s2, kx_sl, kx_pre, kx_c2, kx_pl, kx_cmp, kx_oF, kx_eqN, kx_nil, kx_c1, kx_ft, kx_aI, kx_aL, kx_aR, kx_ln, Nat.reduceAdd, Option.toList, List.cons_append, List.nil_append, cf8_2, cf8_8, cf8_1, cf8_0]
                repeat (simp only [pk_us, pk_un, kz_uu, ne_eq, Nat.reduceEqDiff, not_false_eq_true, nI_1, cx_8s, cx_8ss, cx_8o, cx_8n (show ¬ (67:Nat) = 68 by decide), h1, hT, cp8_8, cp8_2, ks_eq, ks_ss, nI_clamp (show b < 2 ^ 31 by omega)]; try dsimp only [kx_wp, kx_step, kx_lI, kx_lL, kx_lA, kx_gl, kx_pI, kx_pL, kx_pR, kx_pA, kx_pV, kx_s1, kx_s2, kx_sl, kx_pre, kx_c2, kx_pl, kx_cmp, kx_oF, kx_eqN, kx_nil, kx_c1, kx_ft, kx_aI, kx_aL, kx_aR, kx_ln, Nat.reduceAdd, Option.toList, List.cons_append, List.nil_append, cf8_2, cf8_8, cf8_1, cf8_0])
                all_goals (repeat' apply And.intro)
                all_goals first | exact True.intro | rfl | (simp only [cx_nv, zq, zc37, ze37, zc51, ze51, zc65, ze65, zc111, ze111, zc116, ze116, ↓reduceIte, true_and, and_true, and_false, false_and, and_self, not_true_eq_false, not_false_eq_true]; done) | (simp only [cx_nF, zq, zc37, ze37, zc51, ze51, zc65, ze65, zc111, ze111, zc116, ze116, ↓reduceIte, true_and, and_true, and_false, false_and, and_self, not_true_eq_false, not_false_eq_true]; done)
              · intro zc116
                with_reducible first | have ze116 := Int32.not_le.mp zc116 | have ze116 := zc116
                refine hB bX8_takeNumber_119 _ _ _ _ _ _ _ kX8_takeNumber_119 ?_
                dsimp only [bX8_takeNumber_119, kx_wp, kx_step, kx_lI, kx_lL, kx_lA, kx_gl, kx_pI, kx_pL, kx_pR, kx_pA, kx_pV, kx_s1, kx_s2, kx_sl, kx_pre, kx_c2, kx_pl, kx_cmp, kx_oF, kx_eqN, kx_nil, kx_c1, kx_ft, kx_aI, kx_aL, kx_aR, kx_ln, Nat.reduceAdd, Option.toList, List.cons_append, List.nil_append, cf8_2, cf8_8, cf8_1, cf8_0]
                repeat (simp only [pk_us, pk_un, kz_uu, ne_eq, Nat.reduceEqDiff, not_false_eq_true, nI_1, cx_8s, cx_8ss, cx_8o, cx_8n (show ¬ (67:Nat) = 68 by decide), h1, hT, cp8_8, cp8_2, ks_eq, ks_ss, nI_clamp (show b < 2 ^ 31 by omega)]; try dsimp only [kx_wp, kx_step, kx_lI, kx_lL, kx_lA, kx_gl, kx_pI, kx_pL, kx_pR, kx_pA, kx_pV, kx_s1, kx_s2, kx_sl, kx_pre, kx_c2, kx_pl, kx_cmp, kx_oF, kx_eqN, kx_nil, kx_c1, kx_ft, kx_aI, kx_aL, kx_aR, kx_ln, Nat.reduceAdd, Option.toList, List.cons_append, List.nil_append, cf8_2, cf8_8, cf8_1, cf8_0])
                repeat' apply And.intro
                all_goals try (first | with_reducible assumption | (with_reducible refine ck_nzI ?_; simp; done) | (with_reducible refine ck_nzL ?_; simp; done) | (with_reducible refine vp_in_nI ?_ ?_ <;> first | omega | decide) | (with_reducible refine Nat.le_of_ble_eq_true ?_; rfl) | omega | exact Or.inl trivial | exact Or.inr trivial | exact Or.inl rfl | exact Or.inr rfl)
                refine hC.1 58 _ _ _ _ _ _ _ 8 _ _ _ _ _ _ _ _ _ _ _ _ lX8_58 (ct_X8_refuse l G) ⟨by decide, rfl⟩ (cx_8o) rfl rfl (Nat.le_of_ble_eq_true rfl) (by first | decide | omega) (by decide) (by omega) (by omega) dX8_takeNumber_125 ?_
                refine hB bX8_takeNumber_128 _ _ _ _ _ _ _ kX8_takeNumber_128 ?_
                dsimp only [bX8_takeNumber_128, kx_wp, kx_step, kx_lI, kx_lL, kx_lA, kx_gl, kx_pI, kx_pL, kx_pR, kx_pA, kx_pV, kx_s1, kx_s2, kx_sl, kx_pre, kx_c2, kx_pl, kx_cmp, kx_oF, kx_eqN, kx_nil, kx_c1, kx_ft, kx_aI, kx_aL, kx_aR, kx_ln, Nat.reduceAdd, Option.toList, List.cons_append, List.nil_append, cf8_2, cf8_8, cf8_1, cf8_0]
                repeat (simp only [pk_us, pk_un, kz_uu, ne_eq, Nat.reduceEqDiff, not_false_eq_true, nI_1, cx_8s, cx_8ss, cx_8o, cx_8n (show ¬ (67:Nat) = 68 by decide), h1, hT, cp8_8, cp8_2, ks_eq, ks_ss, nI_clamp (show b < 2 ^ 31 by omega)]; try dsimp only [kx_wp, kx_step, kx_lI, kx_lL, kx_lA, kx_gl, kx_pI, kx_pL, kx_pR, kx_pA, kx_pV, kx_s1, kx_s2, kx_sl, kx_pre, kx_c2, kx_pl, kx_cmp, kx_oF, kx_eqN, kx_nil, kx_c1, kx_ft, kx_aI, kx_aL, kx_aR, kx_ln, Nat.reduceAdd, Option.toList, List.cons_append, List.nil_append, cf8_2, cf8_8, cf8_1, cf8_0])
                all_goals (repeat' apply And.intro)
                all_goals first | exact True.intro | rfl | (simp only [cx_nv, zq, zc37, ze37, zc51, ze51, zc65, ze65, zc111, ze111, zc116, ze116, ↓reduceIte, true_and, and_true, and_false, false_and, and_self, not_true_eq_false, not_false_eq_true]; done) | (simp only [cx_nF, zq, zc37, ze37, zc51, ze51, zc65, ze65, zc111, ze111, zc116, ze116, ↓reduceIte, true_and, and_true, and_false, false_and, and_self, not_true_eq_false, not_false_eq_true]; done)
          · intro zc65
            with_reducible first | have ze65 := Int32.not_lt.mp zc65 | have ze65 := zc65
            refine hB bX8_takeNumber_68 _ _ _ _ _ _ _ kX8_takeNumber_68 ?_
            dsimp only [bX8_takeNumber_68, kx_wp, kx_step, kx_lI, kx_lL, kx_lA, kx_gl, kx_pI, kx_pL, kx_pR, kx_pA, kx_pV, kx_s1, kx_s2, kx_sl, kx_pre, kx_c2, kx_pl, kx_cmp, kx_oF, kx_eqN, kx_nil, kx_c1, kx_ft, kx_aI, kx_aL, kx_aR, kx_ln, Nat.reduceAdd, Option.toList, List.cons_append, List.nil_append, cf8_2, cf8_8, cf8_1, cf8_0]
            repeat (simp only [pk_us, pk_un, kz_uu, ne_eq, Nat.reduceEqDiff, not_false_eq_true, nI_1, cx_8s, cx_8ss, cx_8o, cx_8n (show ¬ (67:Nat) = 68 by decide), h1, hT, cp8_8, cp8_2, ks_eq, ks_ss, nI_clamp (show b < 2 ^ 31 by omega)]; try dsimp only [kx_wp, kx_step, kx_lI, kx_lL, kx_lA, kx_gl, kx_pI, kx_pL, kx_pR, kx_pA, kx_pV, kx_s1, kx_s2, kx_sl, kx_pre, kx_c2, kx_pl, kx_cmp, kx_oF, kx_eqN, kx_nil, kx_c1, kx_ft, kx_aI, kx_aL, kx_aR, kx_ln, Nat.reduceAdd, Option.toList, List.cons_append, List.nil_append, cf8_2, cf8_8, cf8_1, cf8_0])
            repeat' apply And.intro
            all_goals try (first | with_reducible assumption | (with_reducible refine ck_nzI ?_; simp; done) | (with_reducible refine ck_nzL ?_; simp; done) | (with_reducible refine vp_in_nI ?_ ?_ <;> first | omega | decide) | (with_reducible refine Nat.le_of_ble_eq_true ?_; rfl) | omega | exact Or.inl trivial | exact Or.inr trivial | exact Or.inl rfl | exact Or.inr rfl)
            refine hC.2.1 19 _ _ _ _ _ _ _ _ _ _ _ _ _ _ _ _ _ lX8_19 (ct_J9_min_7cf53 l G) rfl rfl (Nat.le_of_ble_eq_true rfl) (by first | decide | omega) (by decide) (by omega) (by omega) dX8_takeNumber_87 ?_
            refine hB bX8_takeNumber_90 _ _ _ _ _ _ _ kX8_takeNumber_90 ?_
            dsimp only [bX8_takeNumber_90, kx_wp, kx_step, kx_lI, kx_lL, kx_lA, kx_gl, kx_pI, kx_pL, kx_pR, kx_pA, kx_pV, kx_s1, kx_s2, kx_sl, kx_pre, kx_c2, kx_pl, kx_cmp, kx_oF, kx_eqN, kx_nil, kx_c1, kx_ft, kx_aI, kx_aL, kx_aR, kx_ln, Nat.reduceAdd, Option.toList, List.cons_append, List.nil_append, cf8_2, cf8_8, cf8_1, cf8_0]
            repeat (simp only [pk_us, pk_un, kz_uu, ne_eq, Nat.reduceEqDiff, not_false_eq_true, nI_1, cx_8s, cx_8ss, cx_8o, cx_8n (show ¬ (67:Nat) = 68 by decide), h1, hT, cp8_8, cp8_2, ks_eq, ks_ss, nI_clamp (show b < 2 ^ 31 by omega)]; try dsimp only [kx_wp, kx_step, kx_lI, kx_lL, kx_lA, kx_gl, kx_pI, kx_pL, kx_pR, kx_pA, kx_pV, kx_s1, kx_s2, kx_sl, kx_pre, kx_c2, kx_pl, kx_cmp, kx_oF, kx_eqN, kx_nil, kx_c1, kx_ft, kx_aI, kx_aL, kx_aR, kx_ln, Nat.reduceAdd, Option.toList, List.cons_append, List.nil_append, cf8_2, cf8_8, cf8_1, cf8_0])
            repeat' apply And.intro
            all_goals try (first | with_reducible assumption | (with_reducible refine ck_nzI ?_; simp; done) | (with_reducible refine ck_nzL ?_; simp; done) | (with_reducible refine vp_in_nI ?_ ?_ <;> first | omega | decide) | (with_reducible refine Nat.le_of_ble_eq_true ?_; rfl) | omega | exact Or.inl trivial | exact Or.inr trivial | exact Or.inl rfl | exact Or.inr rfl)
            rw [if_pos ⟨ze51, ze65⟩] at he2
            exact ih (b + 1) _ (by omega) he2
  refine hB bX8_takeNumber_0 _ _ _ _ _ _ _ kX8_takeNumber_0 ?_
  dsimp only [bX8_takeNumber_0, kx_wp, kx_step, kx_lI, kx_lL, kx_lA, kx_gl, kx_pI, kx_pL, kx_pR, kx_pA, kx_pV, kx_s1, kx_s2, kx_sl, kx_pre, kx_c2, kx_pl, kx_cmp, kx_oF, kx_eqN, kx_nil, kx_c1, kx_ft, kx_aI, kx_aL, kx_aR, kx_ln, Nat.reduceAdd, Option.toList, List.cons_append, List.nil_append, cf8_2, cf8_8, cf8_1, cf8_0]
  repeat (simp only [pk_us, pk_un, kz_uu, ne_eq, Nat.reduceEqDiff, not_false_eq_true, nI_1, cx_8s, cx_8ss, cx_8o, cx_8n (show ¬ (67:Nat) = 68 by decide), h1, hT, cp8_8, cp8_2, ks_eq, ks_ss, h2]; try dsimp only [kx_wp, kx_step, kx_lI, kx_lL, kx_lA, kx_gl, kx_pI, kx_pL, kx_pR, kx_pA, kx_pV, kx_s1, kx_s2, kx_sl, kx_pre, kx_c2, kx_pl, kx_cmp, kx_oF, kx_eqN, kx_nil, kx_c1, kx_ft, kx_aI, kx_aL, kx_aR, kx_ln, Nat.reduceAdd, Option.toList, List.cons_append, List.nil_append, cf8_2, cf8_8, cf8_1, cf8_0])
  repeat' apply And.intro
  all_goals try (first | with_reducible assumption | (with_reducible refine ck_nzI ?_; simp; done) | (with_reducible refine ck_nzL ?_; simp; done) | (with_reducible refine vp_in_nI ?_ ?_ <;> first | omega | decide) | (with_reducible refine Nat.le_of_ble_eq_true ?_; rfl) | omega | exact Or.inl trivial | exact Or.inr trivial | exact Or.inl rfl | exact Or.inr rfl)
  refine hC.1 80 _ _ _ _ _ _ _ 8 _ _ _ _ _ _ _ _ _ _ _ _ lX8_80 (ct_X8_nextIsDigit_t (F := upd F 8 (nI a)) (x := x) hT (n := n) (a := a) (by simp only [pk_un, ne_eq, Nat.reduceEqDiff, not_false_eq_true]; exact h1) hn (by simp only [pk_un, ne_eq, Nat.reduceEqDiff, not_false_eq_true]; exact h2) ha hd) ⟨by decide, rfl⟩ (cx_8o) rfl rfl (Nat.le_of_ble_eq_true rfl) (by first | decide | omega) (by decide) (by omega) (by omega) dX8_takeNumber_9 ?_
  refine hB bX8_takeNumber_12 _ _ _ _ _ _ _ kX8_takeNumber_12 ?_
  dsimp only [bX8_takeNumber_12, kx_wp, kx_step, kx_lI, kx_lL, kx_lA, kx_gl, kx_pI, kx_pL, kx_pR, kx_pA, kx_pV, kx_s1, kx_s2, kx_sl, kx_pre, kx_c2, kx_pl, kx_cmp, kx_oF, kx_eqN, kx_nil, kx_c1, kx_ft, kx_aI, kx_aL, kx_aR, kx_ln, Nat.reduceAdd, Option.toList, List.cons_append, List.nil_append, cf8_2, cf8_8, cf8_1, cf8_0]
  repeat (simp only [pk_us, pk_un, kz_uu, ne_eq, Nat.reduceEqDiff, not_false_eq_true, nI_1, cx_8s, cx_8ss, cx_8o, cx_8n (show ¬ (67:Nat) = 68 by decide), h1, hT, cp8_8, cp8_2, ks_eq, ks_ss, h2]; try dsimp only [kx_wp, kx_step, kx_lI, kx_lL, kx_lA, kx_gl, kx_pI, kx_pL, kx_pR, kx_pA, kx_pV, kx_s1, kx_s2, kx_sl, kx_pre, kx_c2, kx_pl, kx_cmp, kx_oF, kx_eqN, kx_nil, kx_c1, kx_ft, kx_aI, kx_aL, kx_aR, kx_ln, Nat.reduceAdd, Option.toList, List.cons_append, List.nil_append, cf8_2, cf8_8, cf8_1, cf8_0])
  repeat' apply And.intro
  all_goals try (first | with_reducible assumption | (with_reducible refine ck_nzI ?_; simp; done) | (with_reducible refine ck_nzL ?_; simp; done) | (with_reducible refine vp_in_nI ?_ ?_ <;> first | omega | decide) | (with_reducible refine Nat.le_of_ble_eq_true ?_; rfl) | omega | exact Or.inl trivial | exact Or.inr trivial | exact Or.inl rfl | exact Or.inr rfl)
  · intro zc12
    have ze12 := zc12
    refine hB bX8_takeNumber_27 _ _ _ _ _ _ _ kX8_takeNumber_27 ?_
    dsimp only [bX8_takeNumber_27, kx_wp, kx_step, kx_lI, kx_lL, kx_lA, kx_gl, kx_pI, kx_pL, kx_pR, kx_pA, kx_pV, kx_s1, kx_s2, kx_sl, kx_pre, kx_c2, kx_pl, kx_cmp, kx_oF, kx_eqN, kx_nil, kx_c1, kx_ft, kx_aI, kx_aL, kx_aR, kx_ln, Nat.reduceAdd, Option.toList, List.cons_append, List.nil_append, cf8_2, cf8_8, cf8_1, cf8_0]
    repeat (simp only [pk_us, pk_un, kz_uu, ne_eq, Nat.reduceEqDiff, not_false_eq_true, nI_1, cx_8s, cx_8ss, cx_8o, cx_8n (show ¬ (67:Nat) = 68 by decide), h1, hT, cp8_8, cp8_2, ks_eq, ks_ss, h2]; try dsimp only [kx_wp, kx_step, kx_lI, kx_lL, kx_lA, kx_gl, kx_pI, kx_pL, kx_pR, kx_pA, kx_pV, kx_s1, kx_s2, kx_sl, kx_pre, kx_c2, kx_pl, kx_cmp, kx_oF, kx_eqN, kx_nil, kx_c1, kx_ft, kx_aI, kx_aL, kx_aR, kx_ln, Nat.reduceAdd, Option.toList, List.cons_append, List.nil_append, cf8_2, cf8_8, cf8_1, cf8_0])
    repeat' apply And.intro
    all_goals try (first | with_reducible assumption | (with_reducible refine ck_nzI ?_; simp; done) | (with_reducible refine ck_nzL ?_; simp; done) | (with_reducible refine vp_in_nI ?_ ?_ <;> first | omega | decide) | (with_reducible refine Nat.le_of_ble_eq_true ?_; rfl) | omega | exact Or.inl trivial | exact Or.inr trivial | exact Or.inl rfl | exact Or.inr rfl)
    have zi := loop29 (n - a) a 0 (by omega) rfl
    rw [kz_ui (f := upd F 8 (nI a)) (k := 2) (x := nI a) (by simp only [pk_un, ne_eq, Nat.reduceEqDiff, not_false_eq_true]; exact h2)] at zi
    exact zi
  · intro zc12
    first | exact absurd rfl zc12 | exact absurd zc12 (by decide) | exact absurd (by decide) zc12 | (exfalso; first | exact absurd ((nI_leI (a := n) (b := b) (by omega) (by omega)).mp zc37) (by omega) | exact absurd ((nI_leI (a := n) (b := b) (by omega) (by omega)).mpr (by omega)) zc37) | (exfalso; simp_all; done)

def bX8_wordIs_0 : List kx_O := [(.aload_n 1, 1, 0, 0, .null)]
theorem kX8_wordIs_0 : kx_oks kxL_X8 false cX8_wordIs 0 bX8_wordIs_0 = true := by decide +kernel
def bX8_wordIs_4 : List kx_O := [(.aload_n 0, 0, 0, 0, .null), (.getfield 65, 8, 7, 0, .null), (.aload_n 0, 0, 0, 0, .null), (.getfield 62, 8, 6, 0, .null), (.isub, 0, 0, 0, .null), (.if_icmp .ne 7, 20, 0, 0, .null)]
theorem kX8_wordIs_4 : kx_oks kxL_X8 false cX8_wordIs 4 bX8_wordIs_4 = true := by decide +kernel
def bX8_wordIs_16 : List kx_O := [(.iconst 1, 0, 0, 0, .int 1), (.goto 4, 21, 0, 0, .null)]
theorem kX8_wordIs_16 : kx_oks kxL_X8 false cX8_wordIs 16 bX8_wordIs_16 = true := by decide +kernel
def bX8_wordIs_20 : List kx_O := [(.iconst 0, 0, 0, 0, .int 0)]
theorem kX8_wordIs_20 : kx_oks kxL_X8 false cX8_wordIs 20 bX8_wordIs_20 = true := by decide +kernel
def bX8_wordIs_21 : List kx_O := [(.istore_n 2, 2, 0, 0, .null), (.iconst 0, 0, 0, 0, .int 0), (.istore_n 3, 3, 0, 0, .null)]
theorem kX8_wordIs_21 : kx_oks kxL_X8 false cX8_wordIs 21 bX8_wordIs_21 = true := by decide +kernel
def bX8_wordIs_24 : List kx_O := [(.iload_n 2, 2, 0, 0, .null), (.ifCond .eq 42, 67, 0, 0, .null)]
theorem kX8_wordIs_24 : kx_oks kxL_X8 false cX8_wordIs 24 bX8_wordIs_24 = true := by decide +kernel
def bX8_wordIs_28 : List kx_O := [(.iload_n 3, 3, 0, 0, .null), (.aload_n 1, 1, 0, 0, .null)]
theorem kX8_wordIs_28 : kx_oks kxL_X8 false cX8_wordIs 28 bX8_wordIs_28 = true := by decide +kernel
def bX8_wordIs_33 : List kx_O := [(.if_icmp .ge 34, 67, 0, 0, .null)]
theorem kX8_wordIs_33 : kx_oks kxL_X8 false cX8_wordIs 33 bX8_wordIs_33 = true := by decide +kernel
def bX8_wordIs_36 : List kx_O := [(.aload_n 1, 1, 0, 0, .null), (.iload_n 3, 3, 0, 0, .null)]
theorem kX8_wordIs_36 : kx_oks kxL_X8 false cX8_wordIs 36 bX8_wordIs_36 = true := by decide +kernel
def bX8_wordIs_41 : List kx_O := [(.aload_n 0, 0, 0, 0, .null), (.getfield 15, 8, 0, 0, .null), (.aload_n 0, 0, 0, 0, .null), (.getfield 62, 8, 6, 0, .null), (.iload_n 3, 3, 0, 0, .null), (.iadd, 0, 0, 0, .null), (.iaload, 0, 0, 0, .null), (.if_icmp .ne 7, 59, 0, 0, .null)]
theorem kX8_wordIs_41 : kx_oks kxL_X8 false cX8_wordIs 41 bX8_wordIs_41 = true := by decide +kernel
def bX8_wordIs_55 : List kx_O := [(.iconst 1, 0, 0, 0, .int 1), (.goto 4, 60, 0, 0, .null)]
theorem kX8_wordIs_55 : kx_oks kxL_X8 false cX8_wordIs 55 bX8_wordIs_55 = true := by decide +kernel
def bX8_wordIs_59 : List kx_O := [(.iconst 0, 0, 0, 0, .int 0)]
theorem kX8_wordIs_59 : kx_oks kxL_X8 false cX8_wordIs 59 bX8_wordIs_59 = true := by decide +kernel
def bX8_wordIs_60 : List kx_O := [(.istore_n 2, 2, 0, 0, .null), (.iinc 3 1, 3, 0, 0, .int 1), (.goto (-40), 24, 0, 0, .null)]
theorem kX8_wordIs_60 : kx_oks kxL_X8 false cX8_wordIs 60 bX8_wordIs_60 = true := by decide +kernel
def bX8_wordIs_67 : List kx_O := [(.iload_n 2, 2, 0, 0, .null), (.ireturn, 0, 0, 0, .null)]
theorem kX8_wordIs_67 : kx_oks kxL_X8 false cX8_wordIs 67 bX8_wordIs_67 = true := by decide +kernel
theorem dX8_wordIs_1 : decode cX8_wordIs 1 = .ok (.invokevirtual 68, 3) := by decide +kernel
theorem dX8_wordIs_30 : decode cX8_wordIs 30 = .ok (.invokevirtual 68, 3) := by decide +kernel
theorem dX8_wordIs_38 : decode cX8_wordIs 38 = .ok (.invokevirtual 73, 3) := by decide +kernel
set_option maxRecDepth 100000 in
set_option maxHeartbeats 4000000 in
theorem ct_X8_wordIs (l : Launch) (G : kx_G) {P : kx_P} {sz : Nat} {F T : Nat → Int32} {x : Value} (hT : P 67 = kI 0 400 T) {b e : Nat} (h6 : F 6 = nI b) (h7 : F 7 = nI e) (hbe : b ≤ e) (hen : e ≤ 400) {i : Nat} (hi : i < 23)  : kx_M l G sX8_wordIs 5 0 0 [.ref 68, .ref (8 + i)] (cx_8 P x F) sz (some (.int (if cx_is T b e i = true then 1 else 0))) (cx_8 P x F) sz := by
  have zb := kz_byl i
  have zs : nI e - nI b = nI (e - b) := pk_sub (by omega)
  refine kz_m2d kx_tab kxLok_X8 (ini := false) [some (.ref 68), some (.ref (8 + i)), none, none] ⟨by decide +kernel, rfl, by decide, by decide⟩ (Or.inl (kz_rb _)) rfl rfl (fun g hB hC hK => ?_)
  have out24 : ∀ (j : Nat), cx_is T b e i = false → g 24 [some (.ref 68), some (.ref (8 + i)), some (.int 0), some (.int (nI j))] [] (cx_8 P x F) sz 0 0 := by
    intro j hf
    refine hB bX8_wordIs_24 _ _ _ _ _ _ _ kX8_wordIs_24 ?_
    dsimp only [bX8_wordIs_24, kx_wp, kx_step, kx_lI, kx_lL, kx_lA, kx_gl, kx_pI, kx_pL, kx_pR, kx_pA, kx_pV, kx_s1, kx_s2, kx_sl, kx_pre, kx_c2, kx_pl, kx_cmp, kx_oF, kx_eqN, kx_nil, kx_c1, kx_ft, kx_aI, kx_aL, kx_aR, kx_ln, Nat.reduceAdd, Option.toList, List.cons_append, List.nil_append, cf8_7, cf8_6, cf8_0]
    repeat (simp only [pk_us, pk_un, kz_uu, ne_eq, Nat.reduceEqDiff, not_false_eq_true, nI_1, cx_8s, cx_8ss, cx_8o, cx_8n (show ¬ (67:Nat) = 68 by decide), h6, h7, hT, zs, nI_add, ks_eq, ks_ss]; try dsimp only [kx_wp, kx_step, kx_lI, kx_lL, kx_lA, kx_gl, kx_pI, kx_pL, kx_pR, kx_pA, kx_pV, kx_s1, kx_s2, kx_sl, kx_pre, kx_c2, kx_pl, kx_cmp, kx_oF, kx_eqN, kx_nil, kx_c1, kx_ft, kx_aI, kx_aL, kx_aR, kx_ln, Nat.reduceAdd, Option.toList, List.cons_append, List.nil_append, cf8_7, cf8_6, cf8_0])
    repeat' apply And.intro
    all_goals try (first | with_reducible assumption | (with_reducible refine ck_nzI ?_; simp; done) | (with_reducible refine ck_nzL ?_; simp; done) | (with_reducible refine vp_in_nI ?_ ?_ <;> first | omega | decide) | (with_reducible refine Nat.le_of_ble_eq_true ?_; rfl) | omega | exact Or.inl trivial | exact Or.inr trivial | exact Or.inl rfl | exact Or.inr rfl)
    · intro zc25
      have ze25 := zc25
      refine hB bX8_wordIs_67 _ _ _ _ _ _ _ kX8_wordIs_67 ?_
      dsimp only [bX8_wordIs_67, kx_wp, kx_step, kx_lI, kx_lL, kx_lA, kx_gl, kx_pI, kx_pL, kx_pR, kx_pA, kx_pV, kx_s1, kx_s2, kx_sl, kx_pre, kx_c2, kx_pl, kx_cmp, kx_oF, kx_eqN, kx_nil, kx_c1, kx_ft, kx_aI, kx_aL, kx_aR, kx_ln, Nat.reduceAdd, Option.toList, List.cons_append, List.nil_append, cf8_7, cf8_6, cf8_0]
      repeat (simp only [pk_us, pk_un, kz_uu, ne_eq, Nat.reduceEqDiff, not_false_eq_true, nI_1, cx_8s, cx_8ss, cx_8o, cx_8n (show ¬ (67:Nat) = 68 by decide), h6, h7, hT, zs, nI_add, ks_eq, ks_ss]; try dsimp only [kx_wp, kx_step, kx_lI, kx_lL, kx_lA, kx_gl, kx_pI, kx_pL, kx_pR, kx_pA, kx_pV, kx_s1, kx_s2, kx_sl, kx_pre, kx_c2, kx_pl, kx_cmp, kx_oF, kx_eqN, kx_nil, kx_c1, kx_ft, kx_aI, kx_aL, kx_aR, kx_ln, Nat.reduceAdd, Option.toList, List.cons_append, List.nil_append, cf8_7, cf8_6, cf8_0])
      all_goals (repeat' apply And.intro)
      all_goals first | exact True.intro | rfl | (rw [hf]; rfl) | (rw [← he]; rfl)
    · intro zc25
      first | exact absurd rfl zc25 | exact absurd zc25 (by decide) | exact absurd (by decide) zc25 | (exfalso; ((try clear hB hC); simp only [ck_lt, ck_le, ck_eq, not_true_eq_false, not_false_eq_true, Int32.reduceToInt, Int32.reduceAdd, Int32.reduceSub, Int32.reduceMul] at * <;> omega)) | (exfalso; simp_all; done)
  have loop24 : ∀ (n9 : Nat) (j : Nat), e = b + (kz_by i).length → j + n9 = (kz_by i).length → cx_eqs T (b + j) ((kz_by i).drop j) = cx_is T b e i → g 24 [some (.ref 68), some (.ref (8 + i)), some (.int 1), some (.int (nI j))] [] (cx_8 P x F) sz 0 0 := by
    intro n9
    induction n9 with
    | zero =>
      intro j hz hj he
      obtain rfl : j = (kz_by i).length := by omega
      rw [List.drop_length] at he
      refine hB bX8_wordIs_24 _ _ _ _ _ _ _ kX8_wordIs_24 ?_
      dsimp only [bX8_wordIs_24, kx_wp, kx_step, kx_lI, kx_lL, kx_lA, kx_gl, kx_pI, kx_pL, kx_pR, kx_pA, kx_pV, kx_s1, kx_s2, kx_sl, kx_pre, kx_c2, kx_pl, kx_cmp, kx_oF, kx_eqN, kx_nil, kx_c1, kx_ft, kx_aI, kx_aL, kx_aR, kx_ln, Nat.reduceAdd, Option.toList, List.cons_append, List.nil_append, cf8_7, cf8_6, cf8_0]
      repeat (simp only [pk_us, pk_un, kz_uu, ne_eq, Nat.reduceEqDiff, not_false_eq_true, nI_1, cx_8s, cx_8ss, cx_8o, cx_8n (show ¬ (67:Nat) = 68 by decide), h6, h7, hT, zs, nI_add, ks_eq, ks_ss, nI_clamp (show b + j < 2 ^ 31 by omega)]; try dsimp only [kx_wp, kx_step, kx_lI, kx_lL, kx_lA, kx_gl, kx_pI, kx_pL, kx_pR, kx_pA, kx_pV, kx_s1, kx_s2, kx_sl, kx_pre, kx_c2, kx_pl, kx_cmp, kx_oF, kx_eqN, kx_nil, kx_c1, kx_ft, kx_aI, kx_aL, kx_aR, kx_ln, Nat.reduceAdd, Option.toList, List.cons_append, List.nil_append, cf8_7, cf8_6, cf8_0])
      repeat' apply And.intro
      all_goals try (first | with_reducible assumption | (with_reducible refine ck_nzI ?_; simp; done) | (with_reducible refine ck_nzL ?_; simp; done) | (with_reducible refine vp_in_nI ?_ ?_ <;> first | omega | decide) | (with_reducible refine Nat.le_of_ble_eq_true ?_; rfl) | omega | exact Or.inl trivial | exact Or.inr trivial | exact Or.inl rfl | exact Or.inr rfl)
      · intro zc25
        first | exact absurd rfl zc25 | exact absurd zc25 (by decide) | exact absurd (by decide) zc25 | (exfalso; first | exact absurd zc25 (by decide) | exact absurd ((nI_leI (a := (kz_by i).length) (b := j) (by omega) (by omega)).mp zc33) (by omega) | exact absurd ((nI_leI (a := (kz_by i).length) (b := j) (by omega) (by omega)).mpr (by omega)) zc33) | (exfalso; simp_all; done)
      · intro zc25
        have ze25 := zc25
        refine hB bX8_wordIs_28 _ _ _ _ _ _ _ kX8_wordIs_28 ?_
        dsimp only [bX8_wordIs_28, kx_wp, kx_step, kx_lI, kx_lL, kx_lA, kx_gl, kx_pI, kx_pL, kx_pR, kx_pA, kx_pV, kx_s1, kx_s2, kx_sl, kx_pre, kx_c2, kx_pl, kx_cmp, kx_oF, kx_eqN, kx_nil, kx_c1, kx_ft, kx_aI, kx_aL, kx_aR, kx_ln, Nat.reduceAdd, Option.toList, List.cons_append, List.nil_append, cf8_7, cf8_6, cf8_0]
        repeat (simp only [pk_us, pk_un, kz_uu, ne_eq, Nat.reduceEqDiff, not_false_eq_true, nI_1, cx_8s, cx_8ss, cx_8o, cx_8n (show ¬ (67:Nat) = 68 by decide), h6, h7, hT, zs, nI_add, ks_eq, ks_ss, nI_clamp (show b + j < 2 ^ 31 by omega)]; try dsimp only [kx_wp, kx_step, kx_lI, kx_lL, kx_lA, kx_gl, kx_pI, kx_pL, kx_pR, kx_pA, kx_pV, kx_s1, kx_s2, kx_sl, kx_pre, kx_c2, kx_pl, kx_cmp, kx_oF, kx_eqN, kx_nil, kx_c1, kx_ft, kx_aI, kx_aL, kx_aR, kx_ln, Nat.reduceAdd, Option.toList, List.cons_append, List.nil_append, cf8_7, cf8_6, cf8_0])
        repeat' apply And.intro
        all_goals try (first | with_reducible assumption | (with_reducible refine ck_nzI ?_; simp; done) | (with_reducible refine ck_nzL ?_; simp; done) | (with_reducible refine vp_in_nI ?_ ?_ <;> first | omega | decide) | (with_reducible refine Nat.le_of_ble_eq_true ?_; rfl) | omega | exact Or.inl trivial | exact Or.inr trivial | exact Or.inl rfl | exact Or.inr rfl)
        refine kz_cal hK i lX8_68 (ct_J0_length_8abf5 l G hi) rfl hi rfl rfl (Nat.le_of_ble_eq_true rfl) (by decide) (by decide) (by omega) (by omega) dX8_wordIs_30 ?_
        dsimp only [Option.toList, List.cons_append, List.nil_append]
        refine hB bX8_wordIs_33 _ _ _ _ _ _ _ kX8_wordIs_33 ?_
        dsimp only [bX8_wordIs_33, kx_wp, kx_step, kx_lI, kx_lL, kx_lA, kx_gl, kx_pI, kx_pL, kx_pR, kx_pA, kx_pV, kx_s1, kx_s2, kx_sl, kx_pre, kx_c2, kx_pl, kx_cmp, kx_oF, kx_eqN, kx_nil, kx_c1, kx_ft, kx_aI, kx_aL, kx_aR, kx_ln, Nat.reduceAdd, Option.toList, List.cons_append, List.nil_append, cf8_7, cf8_6, cf8_0]
        repeat (simp only [pk_us, pk_un, kz_uu, ne_eq, Nat.reduceEqDiff, not_false_eq_true, nI_1, cx_8s, cx_8ss, cx_8o, cx_8n (show ¬ (67:Nat) = 68 by decide), h6, h7, hT, zs, nI_add, ks_eq, ks_ss, nI_clamp (show b + j < 2 ^ 31 by omega)]; try dsimp only [kx_wp, kx_step, kx_lI, kx_lL, kx_lA, kx_gl, kx_pI, kx_pL, kx_pR, kx_pA, kx_pV, kx_s1, kx_s2, kx_sl, kx_pre, kx_c2, kx_pl, kx_cmp, kx_oF, kx_eqN, kx_nil, kx_c1, kx_ft, kx_aI, kx_aL, kx_aR, kx_ln, Nat.reduceAdd, Option.toList, List.cons_append, List.nil_append, cf8_7, cf8_6, cf8_0])
        repeat' apply And.intro
        all_goals try (first | with_reducible assumption | (with_reducible refine ck_nzI ?_; simp; done) | (with_reducible refine ck_nzL ?_; simp; done) | (with_reducible refine vp_in_nI ?_ ?_ <;> first | omega | decide) | (with_reducible refine Nat.le_of_ble_eq_true ?_; rfl) | omega | exact Or.inl trivial | exact Or.inr trivial | exact Or.inl rfl | exact Or.inr rfl)
        · intro zc33
          with_reducible first | have ze33 := Int32.not_lt.mpr zc33 | have ze33 := zc33
          refine hB bX8_wordIs_67 _ _ _ _ _ _ _ kX8_wordIs_67 ?_
          dsimp only [bX8_wordIs_67, kx_wp, kx_step, kx_lI, kx_lL, kx_lA, kx_gl, kx_pI, kx_pL, kx_pR, kx_pA, kx_pV, kx_s1, kx_s2, kx_sl, kx_pre, kx_c2, kx_pl, kx_cmp, kx_oF, kx_eqN, kx_nil, kx_c1, kx_ft, kx_aI, kx_aL, kx_aR, kx_ln, Nat.reduceAdd, Option.toList, List.cons_append, List.nil_append, cf8_7, cf8_6, cf8_0]
          repeat (simp only [pk_us, pk_un, kz_uu, ne_eq, Nat.reduceEqDiff, not_false_eq_true, nI_1, cx_8s, cx_8ss, cx_8o, cx_8n (show ¬ (67:Nat) = 68 by decide), h6, h7, hT, zs, nI_add, ks_eq, ks_ss, nI_clamp (show b + j < 2 ^ 31 by omega)]; try dsimp only [kx_wp, kx_step, kx_lI, kx_lL, kx_lA, kx_gl, kx_pI, kx_pL, kx_pR, kx_pA, kx_pV, kx_s1, kx_s2, kx_sl, kx_pre, kx_c2, kx_pl, kx_cmp, kx_oF, kx_eqN, kx_nil, kx_c1, kx_ft, kx_aI, kx_aL, kx_aR, kx_ln, Nat.reduceAdd, Option.toList, List.cons_append, List.nil_append, cf8_7, cf8_6, cf8_0])
          all_goals (repeat' apply And.intro)
          all_goals first | exact True.intro | rfl | (rw [hf]; rfl) | (rw [← he]; rfl)
        · intro zc33
          first | exact absurd rfl zc33 | exact absurd zc33 (by decide) | exact absurd (by decide) zc33 | (exfalso; first | exact absurd zc25 (by decide) | exact absurd ((nI_leI (a := (kz_by i).length) (b := j) (by omega) (by omega)).mp zc33) (by omega) | exact absurd ((nI_leI (a := (kz_by i).length) (b := j) (by omega) (by omega)).mpr (by omega)) zc33) | (exfalso; simp_all; done)
    | succ n9 ih =>
      intro j hz hj he
      rw [kz_drop (by omega)] at he
      unfold cx_eqs at he
      refine hB bX8_wordIs_24 _ _ _ _ _ _ _ kX8_wordIs_24 ?_
      dsimp only [bX8_wordIs_24, kx_wp, kx_step, kx_lI, kx_lL, kx_lA, kx_gl, kx_pI, kx_pL, kx_pR, kx_pA, kx_pV, kx_s1, kx_s2, kx_sl, kx_pre, kx_c2, kx_pl, kx_cmp, kx_oF, kx_eqN, kx_nil, kx_c1, kx_ft, kx_aI, kx_aL, kx_aR, kx_ln, Nat.reduceAdd, Option.toList, List.cons_append, List.nil_append, cf8_7, cf8_6, cf8_0]
      repeat (simp only [pk_us, pk_un, kz_uu, ne_eq, Nat.reduceEqDiff, not_false_eq_true, nI_1, cx_8s, cx_8ss, cx_8o, cx_8n (show ¬ (67:Nat) = 68 by decide), h6, h7, hT, zs, nI_add, ks_eq, ks_ss, nI_clamp (show b + j < 2 ^ 31 by omega)]; try dsimp only [kx_wp, kx_step, kx_lI, kx_lL, kx_lA, kx_gl, kx_pI, kx_pL, kx_pR, kx_pA, kx_pV, kx_s1, kx_s2, kx_sl, kx_pre, kx_c2, kx_pl, kx_cmp, kx_oF, kx_eqN, kx_nil, kx_c1, kx_ft, kx_aI, kx_aL, kx_aR, kx_ln, Nat.reduceAdd, Option.toList, List.cons_append, List.nil_append, cf8_7, cf8_6, cf8_0])
      repeat' apply And.intro
      all_goals try (first | with_reducible assumption | (with_reducible refine ck_nzI ?_; simp; done) | (with_reducible refine ck_nzL ?_; simp; done) | (with_reducible refine vp_in_nI ?_ ?_ <;> first | omega | decide) | (with_reducible refine Nat.le_of_ble_eq_true ?_; rfl) | omega | exact Or.inl trivial | exact Or.inr trivial | exact Or.inl rfl | exact Or.inr rfl)
      · intro zc25
        first | exact absurd rfl zc25 | exact absurd zc25 (by decide) | exact absurd (by decide) zc25 | (exfalso; first | exact absurd zc25 (by decide) | exact absurd ((nI_leI (a := (kz_by i).length) (b := j) (by omega) (by omega)).mp zc33) (by omega) | exact absurd ((nI_leI (a := (kz_by i).length) (b := j) (by omega) (by omega)).mpr (by omega)) zc33) | (exfalso; simp_all; done)
      · intro zc25
        have ze25 := zc25
        refine hB bX8_wordIs_28 _ _ _ _ _ _ _ kX8_wordIs_28 ?_
        dsimp only [bX8_wordIs_28, kx_wp, kx_step, kx_lI, kx_lL, kx_lA, kx_gl, kx_pI, kx_pL, kx_pR, kx_pA, kx_pV, kx_s1, kx_s2, kx_sl, kx_pre, kx_c2, kx_pl, kx_cmp, kx_oF, kx_eqN, kx_nil, kx_c1, kx_ft, kx_aI, kx_aL, kx_aR, kx_ln, Nat.reduceAdd, Option.toList, List.cons_append, List.nil_append, cf8_7, cf8_6, cf8_0]
        repeat (simp only [pk_us, pk_un, kz_uu, ne_eq, Nat.reduceEqDiff, not_false_eq_true, nI_1, cx_8s, cx_8ss, cx_8o, cx_8n (show ¬ (67:Nat) = 68 by decide), h6, h7, hT, zs, nI_add, ks_eq, ks_ss, nI_clamp (show b + j < 2 ^ 31 by omega)]; try dsimp only [kx_wp, kx_step, kx_lI, kx_lL, kx_lA, kx_gl, kx_pI, kx_pL, kx_pR, kx_pA, kx_pV, kx_s1, kx_s2, kx_sl, kx_pre, kx_c2, kx_pl, kx_cmp, kx_oF, kx_eqN, kx_nil, kx_c1, kx_ft, kx_aI, kx_aL, kx_aR, kx_ln, Nat.reduceAdd, Option.toList, List.cons_append, List.nil_append, cf8_7, cf8_6, cf8_0])
        repeat' apply And.intro
        all_goals try (first | with_reducible assumption | (with_reducible refine ck_nzI ?_; simp; done) | (with_reducible refine ck_nzL ?_; simp; done) | (with_reducible refine vp_in_nI ?_ ?_ <;> first | omega | decide) | (with_reducible refine Nat.le_of_ble_eq_true ?_; rfl) | omega | exact Or.inl trivial | exact Or.inr trivial | exact Or.inl rfl | exact Or.inr rfl)
        refine kz_cal hK i lX8_68 (ct_J0_length_8abf5 l G hi) rfl hi rfl rfl (Nat.le_of_ble_eq_true rfl) (by decide) (by decide) (by omega) (by omega) dX8_wordIs_30 ?_
        dsimp only [Option.toList, List.cons_append, List.nil_append]
        refine hB bX8_wordIs_33 _ _ _ _ _ _ _ kX8_wordIs_33 ?_
        dsimp only [bX8_wordIs_33, kx_wp, kx_step, kx_lI, kx_lL, kx_lA, kx_gl, kx_pI, kx_pL, kx_pR, kx_pA, kx_pV, kx_s1, kx_s2, kx_sl, kx_pre, kx_c2, kx_pl, kx_cmp, kx_oF, kx_eqN, kx_nil, kx_c1, kx_ft, kx_aI, kx_aL, kx_aR, kx_ln, Nat.reduceAdd, Option.toList, List.cons_append, List.nil_append, cf8_7, cf8_6, cf8_0]
        repeat (simp only [pk_us, pk_un, kz_uu, ne_eq, Nat.reduceEqDiff, not_false_eq_true, nI_1, cx_8s, cx_8ss, cx_8o, cx_8n (show ¬ (67:Nat) = 68 by decide), h6, h7, hT, zs, nI_add, ks_eq, ks_ss, nI_clamp (show b + j < 2 ^ 31 by omega)]; try dsimp only [kx_wp, kx_step, kx_lI, kx_lL, kx_lA, kx_gl, kx_pI, kx_pL, kx_pR, kx_pA, kx_pV, kx_s1, kx_s2, kx_sl, kx_pre, kx_c2, kx_pl, kx_cmp, kx_oF, kx_eqN, kx_nil, kx_c1, kx_ft, kx_aI, kx_aL, kx_aR, kx_ln, Nat.reduceAdd, Option.toList, List.cons_append, List.nil_append, cf8_7, cf8_6, cf8_0])
        repeat' apply And.intro
        all_goals try (first | with_reducible assumption | (with_reducible refine ck_nzI ?_; simp; done) | (with_reducible refine ck_nzL ?_; simp; done) | (with_reducible refine vp_in_nI ?_ ?_ <;> first | omega | decide) | (with_reducible refine Nat.le_of_ble_eq_true ?_; rfl) | omega | exact Or.inl trivial | exact Or.inr trivial | exact Or.inl rfl | exact Or.inr rfl)
        · intro zc33
          first | exact absurd rfl zc33 | exact absurd zc33 (by decide) | exact absurd (by decide) zc33 | (exfalso; first | exact absurd zc25 (by decide) | exact absurd ((nI_leI (a := (kz_by i).length) (b := j) (by omega) (by omega)).mp zc33) (by omega) | exact absurd ((nI_leI (a := (kz_by i).length) (b := j) (by omega) (by omega)).mpr (by omega)) zc33) | (exfalso; simp_all; done)
        · intro zc33
          with_reducible first | have ze33 := Int32.not_le.mp zc33 | have ze33 := zc33
          refine hB bX8_wordIs_36 _ _ _ _ _ _ _ kX8_wordIs_36 ?_
          dsimp only [bX8_wordIs_36, kx_wp, kx_step, kx_lI, kx_lL, kx_lA, kx_gl, kx_pI, kx_pL, kx_pR, kx_pA, kx_pV, kx_s1, kx_s2, kx_sl, kx_pre, kx_c2, kx_pl, kx_cmp, kx_oF, kx_eqN, kx_nil, kx_c1, kx_ft, kx_aI, kx_aL, kx_aR, kx_ln, Nat.reduceAdd, Option.toList, List.cons_append, List.nil_append, cf8_7, cf8_6, cf8_0]
          repeat (simp only [pk_us, pk_un, kz_uu, ne_eq, Nat.reduceEqDiff, not_false_eq_true, nI_1, cx_8s, cx_8ss, cx_8o, cx_8n (show ¬ (67:Nat) = 68 by decide), h6, h7, hT, zs, nI_add, ks_eq, ks_ss, nI_clamp (show b + j < 2 ^ 31 by omega)]; try dsimp only [kx_wp, kx_step, kx_lI, kx_lL, kx_lA, kx_gl, kx_pI, kx_pL, kx_pR, kx_pA, kx_pV, kx_s1, kx_s2, kx_sl, kx_pre, kx_c2, kx_pl, kx_cmp, kx_oF, kx_eqN, kx_nil, kx_c1, kx_ft, kx_aI, kx_aL, kx_aR, kx_ln, Nat.reduceAdd, Option.toList, List.cons_append, List.nil_append, cf8_7, cf8_6, cf8_0])
          repeat' apply And.intro
          all_goals try (first | with_reducible assumption | (with_reducible refine ck_nzI ?_; simp; done) | (with_reducible refine ck_nzL ?_; simp; done) | (with_reducible refine vp_in_nI ?_ ?_ <;> first | omega | decide) | (with_reducible refine Nat.le_of_ble_eq_true ?_; rfl) | omega | exact Or.inl trivial | exact Or.inr trivial | exact Or.inl rfl | exact Or.inr rfl)
          refine kz_cal hK i lX8_73 (ct_J0_charAt_5068e l G hi (j := j) (by omega)) rfl hi rfl rfl (Nat.le_of_ble_eq_true rfl) (by decide) (by decide) (by omega) (by omega) dX8_wordIs_38 ?_
          dsimp only [Option.toList, List.cons_append, List.nil_append]
          refine hB bX8_wordIs_41 _ _ _ _ _ _ _ kX8_wordIs_41 ?_
          dsimp only [bX8_wordIs_41, kx_wp, kx_step, kx_lI, kx_lL, kx_lA, kx_gl, kx_pI, kx_pL, kx_pR, kx_pA, kx_pV, kx_s1, kx_s2, kx_sl, kx_pre, kx_c2, kx_pl, kx_cmp, kx_oF, kx_eqN, kx_nil, kx_c1, kx_ft, kx_aI, kx_aL, kx_aR, kx_ln, Nat.reduceAdd, Option.toList, List.cons_append, List.nil_append, cf8_7, cf8_6, cf8_0]
          repeat (simp only [pk_us, pk_un, kz_uu, ne_eq, Nat.reduceEqDiff, not_false_eq_true, nI_1, cx_8s, cx_8ss, cx_8o, cx_8n (show ¬ (67:Nat) = 68 by decide), h6, h7, hT, zs, nI_add, ks_eq, ks_ss, nI_clamp (show b + j < 2 ^ 31 by omega)]; try dsimp only [kx_wp, kx_step, kx_lI, kx_lL, kx_lA, kx_gl, kx_pI, kx_pL, kx_pR, kx_pA, kx_pV, kx_s1, kx_s2, kx_sl, kx_pre, kx_c2, kx_pl, kx_cmp, kx_oF, kx_eqN, kx_nil, kx_c1, kx_ft, kx_aI, kx_aL, kx_aR, kx_ln, Nat.reduceAdd, Option.toList, List.cons_append, List.nil_append, cf8_7, cf8_6, cf8_0])
          repeat' apply And.intro
          all_goals try (first | with_reducible assumption | (with_reducible refine ck_nzI ?_; simp; done) | (with_reducible refine ck_nzL ?_; simp; done) | (with_reducible refine vp_in_nI ?_ ?_ <;> first | omega | decide) | (with_reducible refine Nat.le_of_ble_eq_true ?_; rfl) | omega | exact Or.inl trivial | exact Or.inr trivial | exact Or.inl rfl | exact Or.inr rfl)
          · intro zc52
            have ze52 := zc52
            refine hB bX8_wordIs_59 _ _ _ _ _ _ _ kX8_wordIs_59 ?_
            dsimp only [bX8_wordIs_59, kx_wp, kx_step, kx_lI, kx_lL, kx_lA, kx_gl, kx_pI, kx_pL, kx_pR, kx_pA, kx_pV, kx_s1, kx_s2, kx_sl, kx_pre, kx_c2, kx_pl, kx_cmp, kx_oF, kx_eqN, kx_nil, kx_c1, kx_ft, kx_aI, kx_aL, kx_aR, kx_ln, Nat.reduceAdd, Option.toList, List.cons_append, List.nil_append, cf8_7, cf8_6, cf8_0]
            repeat (simp only [pk_us, pk_un, kz_uu, ne_eq, Nat.reduceEqDiff, not_false_eq_true, nI_1, cx_8s, cx_8ss, cx_8o, cx_8n (show ¬ (67:Nat) = 68 by decide), h6, h7, hT, zs, nI_add, ks_eq, ks_ss, nI_clamp (show b + j < 2 ^ 31 by omega)]; try dsimp only [kx_wp, kx_step, kx_lI, kx_lL, kx_lA, kx_gl, kx_pI, kx_pL, kx_pR, kx_pA, kx_pV, kx_s1, kx_s2, kx_sl, kx_pre, kx_c2, kx_pl, kx_cmp, kx_oF, kx_eqN, kx_nil, kx_c1, kx_ft, kx_aI, kx_aL, kx_aR, kx_ln, Nat.reduceAdd, Option.toList, List.cons_append, List.nil_append, cf8_7, cf8_6, cf8_0])
            repeat' apply And.intro
            all_goals try (first | with_reducible assumption | (with_reducible refine ck_nzI ?_; simp; done) | (with_reducible refine ck_nzL ?_; simp; done) | (with_reducible refine vp_in_nI ?_ ?_ <;> first | omega | decide) | (with_reducible refine Nat.le_of_ble_eq_true ?_; rfl) | omega | exact Or.inl trivial | exact Or.inr trivial | exact Or.inl rfl | exact Or.inr rfl)
            refine hB bX8_wordIs_60 _ _ _ _ _ _ _ kX8_wordIs_60 ?_
            dsimp only [bX8_wordIs_60, kx_wp, kx_step, kx_lI, kx_lL, kx_lA, kx_gl, kx_pI, kx_pL, kx_pR, kx_pA, kx_pV, kx_s1, kx_s2, kx_sl, kx_pre, kx_c2, kx_pl, kx_cmp, kx_oF, kx_eqN, kx_nil, kx_c1, kx_ft, kx_aI, kx_aL, kx_aR, kx_ln, Nat.reduceAdd, Option.toList, List.cons_append, List.nil_append, cf8_7, cf8_6, cf8_0]
            repeat (simp only [pk_us, pk_un, kz_uu, ne_eq, Nat.reduceEqDiff, not_false_eq_true, nI_1, cx_8s, cx_8ss, cx_8o, cx_8n (show ¬ (67:Nat) = 68 by decide), h6, h7, hT, zs, nI_add, ks_eq, ks_ss, nI_clamp (show b + j < 2 ^ 31 by omega)]; try dsimp only [kx_wp, kx_step, kx_lI, kx_lL, kx_lA, kx_gl, kx_pI, kx_pL, kx_pR, kx_pA, kx_pV, kx_s1, kx_s2, kx_sl, kx_pre, kx_c2, kx_pl, kx_cmp, kx_oF, kx_eqN, kx_nil, kx_c1, kx_ft, kx_aI, kx_aL, kx_aR, kx_ln, Nat.reduceAdd, Option.toList, List.cons_append, List.nil_append, cf8_7, cf8_6, cf8_0])
            repeat' apply And.intro
            all_goals try (first | with_reducible assumption | (with_reducible refine ck_nzI ?_; simp; done) | (with_reducible refine ck_nzL ?_; simp; done) | (with_reducible refine vp_in_nI ?_ ?_ <;> first | omega | decide) | (with_reducible refine Nat.le_of_ble_eq_true ?_; rfl) | omega | exact Or.inl trivial | exact Or.inr trivial | exact Or.inl rfl | exact Or.inr rfl)
            first | exact ih (j + 1) hz (by omega) (by rw [← he, decide_eq_true ze52]; rfl) | exact out24 (j + 1) (by rw [← he, decide_eq_false ze52]; rfl)
          · intro zc52
            with_reducible first | have ze52 := Decidable.not_not.mp zc52 | have ze52 := zc52
            refine hB bX8_wordIs_55 _ _ _ _ _ _ _ kX8_wordIs_55 ?_
            dsimp only [bX8_wordIs_55, kx_wp, kx_step, kx_lI, kx_lL, kx_lA, kx_gl, kx_pI, kx_pL, kx_pR, kx_pA, kx_pV, kx_s1, kx_s2, kx_sl, kx_pre, kx_c2, kx_pl, kx_cmp, kx_oF, kx_eqN, kx_nil, kx_c1, kx_ft, kx_aI, kx_aL, kx_aR, kx_ln, Nat.reduceAdd, Option.toList, List.cons_append, List.nil_append, cf8_7, cf8_6, cf8_0]
            repeat (simp only [pk_us, pk_un, kz_uu, ne_eq, Nat.reduceEqDiff, not_false_eq_true, nI_1, cx_8s, cx_8ss, cx_8o, cx_8n (show ¬ (67:Nat) = 68 by decide), h6, h7, hT, zs, nI_add, ks_eq, ks_ss, nI_clamp (show b + j < 2 ^ 31 by omega)]; try dsimp only [kx_wp, kx_step, kx_lI, kx_lL, kx_lA, kx_gl, kx_pI, kx_pL, kx_pR, kx_pA, kx_pV, kx_s1, kx_s2, kx_sl, kx_pre, kx_c2, kx_pl, kx_cmp, kx_oF, kx_eqN, kx_nil, kx_c1, kx_ft, kx_aI, kx_aL, kx_aR, kx_ln, Nat.reduceAdd, Option.toList, List.cons_append, List.nil_append, cf8_7, cf8_6, cf8_0])
            repeat' apply And.intro
            all_goals try (first | with_reducible assumption | (with_reducible refine ck_nzI ?_; simp; done) | (with_reducible refine ck_nzL ?_; simp; done) | (with_reducible refine vp_in_nI ?_ ?_ <;> first | omega | decide) | (with_reducible refine Nat.le_of_ble_eq_true ?_; rfl) | omega | exact Or.inl trivial | exact Or.inr trivial | exact Or.inl rfl | exact Or.inr rfl)
            refine hB bX8_wordIs_60 _ _ _ _ _ _ _ kX8_wordIs_60 ?_
            dsimp only [bX8_wordIs_60, kx_wp, kx_step, kx_lI, kx_lL, kx_lA, kx_gl, kx_pI, kx_pL, kx_pR, kx_pA, kx_pV, kx_s1, kx_s2, kx_sl, kx_pre, kx_c2, kx_pl, kx_cmp, kx_oF, kx_eqN, kx_nil, kx_c1, kx_ft, kx_aI, kx_aL, kx_aR, kx_ln, Nat.reduceAdd, Option.toList, List.cons_append, List.nil_append, cf8_7, cf8_6, cf8_0]
            repeat (simp only [pk_us, pk_un, kz_uu, ne_eq, Nat.reduceEqDiff, not_false_eq_true, nI_1, cx_8s, cx_8ss, cx_8o, cx_8n (show ¬ (67:Nat) = 68 by decide), h6, h7, hT, zs, nI_add, ks_eq, ks_ss, nI_clamp (show b + j < 2 ^ 31 by omega)]; try dsimp only [kx_wp, kx_step, kx_lI, kx_lL, kx_lA, kx_gl, kx_pI, kx_pL, kx_pR, kx_pA, kx_pV, kx_s1, kx_s2, kx_sl, kx_pre, kx_c2, kx_pl, kx_cmp, kx_oF, kx_eqN, kx_nil, kx_c1, kx_ft, kx_aI, kx_aL, kx_aR, kx_ln, Nat.reduceAdd, Option.toList, List.cons_append, List.nil_append, cf8_7, cf8_6, cf8_0])
            repeat' apply And.intro
            all_goals try (first | with_reducible assumption | (with_reducible refine ck_nzI ?_; simp; done) | (with_reducible refine ck_nzL ?_; simp; done) | (with_reducible refine vp_in_nI ?_ ?_ <;> first | omega | decide) | (with_reducible refine Nat.le_of_ble_eq_true ?_; rfl) | omega | exact Or.inl trivial | exact Or.inr trivial | exact Or.inl rfl | exact Or.inr rfl)
            first | exact ih (j + 1) hz (by omega) (by rw [← he, decide_eq_true ze52]; rfl) | exact out24 (j + 1) (by rw [← he, decide_eq_false ze52]; rfl)
  refine hB bX8_wordIs_0 _ _ _ _ _ _ _ kX8_wordIs_0 ?_
  dsimp only [bX8_wordIs_0, kx_wp, kx_step, kx_lI, kx_lL, kx_lA, kx_gl, kx_pI, kx_pL, kx_pR, kx_pA, kx_pV, kx_s1, kx_s2, kx_sl, kx_pre, kx_c2, kx_pl, kx_cmp, kx_oF, kx_eqN, kx_nil, kx_c1, kx_ft, kx_aI, kx_aL, kx_aR, kx_ln, Nat.reduceAdd, Option.toList, List.cons_append, List.nil_append, cf8_7, cf8_6, cf8_0]
  repeat (simp only [pk_us, pk_un, kz_uu, ne_eq, Nat.reduceEqDiff, not_false_eq_true, nI_1, cx_8s, cx_8ss, cx_8o, cx_8n (show ¬ (67:Nat) = 68 by decide), h6, h7, hT, zs, nI_add, ks_eq, ks_ss]; try dsimp only [kx_wp, kx_step, kx_lI, kx_lL, kx_lA, kx_gl, kx_pI, kx_pL, kx_pR, kx_pA, kx_pV, kx_s1, kx_s2, kx_sl, kx_pre, kx_c2, kx_pl, kx_cmp, kx_oF, kx_eqN, kx_nil, kx_c1, kx_ft, kx_aI, kx_aL, kx_aR, kx_ln, Nat.reduceAdd, Option.toList, List.cons_append, List.nil_append, cf8_7, cf8_6, cf8_0])
  repeat' apply And.intro
  all_goals try (first | with_reducible assumption | (with_reducible refine ck_nzI ?_; simp; done) | (with_reducible refine ck_nzL ?_; simp; done) | (with_reducible refine vp_in_nI ?_ ?_ <;> first | omega | decide) | (with_reducible refine Nat.le_of_ble_eq_true ?_; rfl) | omega | exact Or.inl trivial | exact Or.inr trivial | exact Or.inl rfl | exact Or.inr rfl)
  refine kz_cal hK i lX8_68 (ct_J0_length_8abf5 l G hi) rfl hi rfl rfl (Nat.le_of_ble_eq_true rfl) (by decide) (by decide) (by omega) (by omega) dX8_wordIs_1 ?_
  dsimp only [Option.toList, List.cons_append, List.nil_append]
  refine hB bX8_wordIs_4 _ _ _ _ _ _ _ kX8_wordIs_4 ?_
  dsimp only [bX8_wordIs_4, kx_wp, kx_step, kx_lI, kx_lL, kx_lA, kx_gl, kx_pI, kx_pL, kx_pR, kx_pA, kx_pV, kx_s1, kx_s2, kx_sl, kx_pre, kx_c2, kx_pl, kx_cmp, kx_oF, kx_eqN, kx_nil, kx_c1, kx_ft, kx_aI, kx_aL, kx_aR, kx_ln, Nat.reduceAdd, Option.toList, List.cons_append, List.nil_append, cf8_7, cf8_6, cf8_0]
  repeat (simp only [pk_us, pk_un, kz_uu, ne_eq, Nat.reduceEqDiff, not_false_eq_true, nI_1, cx_8s, cx_8ss, cx_8o, cx_8n (show ¬ (67:Nat) = 68 by decide), h6, h7, hT, zs, nI_add, ks_eq, ks_ss]; try dsimp only [kx_wp, kx_step, kx_lI, kx_lL, kx_lA, kx_gl, kx_pI, kx_pL, kx_pR, kx_pA, kx_pV, kx_s1, kx_s2, kx_sl, kx_pre, kx_c2, kx_pl, kx_cmp, kx_oF, kx_eqN, kx_nil, kx_c1, kx_ft, kx_aI, kx_aL, kx_aR, kx_ln, Nat.reduceAdd, Option.toList, List.cons_append, List.nil_append, cf8_7, cf8_6, cf8_0])
  repeat' apply And.intro
  all_goals try (first | with_reducible assumption | (with_reducible refine ck_nzI ?_; simp; done) | (with_reducible refine ck_nzL ?_; simp; done) | (with_reducible refine vp_in_nI ?_ ?_ <;> first | omega | decide) | (with_reducible refine Nat.le_of_ble_eq_true ?_; rfl) | omega | exact Or.inl trivial | exact Or.inr trivial | exact Or.inl rfl | exact Or.inr rfl)
  · intro zc13
    have ze13 := zc13
    refine hB bX8_wordIs_20 _ _ _ _ _ _ _ kX8_wordIs_20 ?_
    dsimp only [bX8_wordIs_20, kx_wp, kx_step, kx_lI, kx_lL, kx_lA, kx_gl, kx_pI, kx_pL, kx_pR, kx_pA, kx_pV, kx_s1, kx_s2, kx_sl, kx_pre, kx_c2, kx_pl, kx_cmp, kx_oF, kx_eqN, kx_nil, kx_c1, kx_ft, kx_aI, kx_aL, kx_aR, kx_ln, Nat.reduceAdd, Option.toList, List.cons_append, List.nil_append, cf8_7, cf8_6, cf8_0]
    repeat (simp only [pk_us, pk_un, kz_uu, ne_eq, Nat.reduceEqDiff, not_false_eq_true, nI_1, cx_8s, cx_8ss, cx_8o, cx_8n (show ¬ (67:Nat) = 68 by decide), h6, h7, hT, zs, nI_add, ks_eq, ks_ss]; try dsimp only [kx_wp, kx_step, kx_lI, kx_lL, kx_lA, kx_gl, kx_pI, kx_pL, kx_pR, kx_pA, kx_pV, kx_s1, kx_s2, kx_sl, kx_pre, kx_c2, kx_pl, kx_cmp, kx_oF, kx_eqN, kx_nil, kx_c1, kx_ft, kx_aI, kx_aL, kx_aR, kx_ln, Nat.reduceAdd, Option.toList, List.cons_append, List.nil_append, cf8_7, cf8_6, cf8_0])
    repeat' apply And.intro
    all_goals try (first | with_reducible assumption | (with_reducible refine ck_nzI ?_; simp; done) | (with_reducible refine ck_nzL ?_; simp; done) | (with_reducible refine vp_in_nI ?_ ?_ <;> first | omega | decide) | (with_reducible refine Nat.le_of_ble_eq_true ?_; rfl) | omega | exact Or.inl trivial | exact Or.inr trivial | exact Or.inl rfl | exact Or.inr rfl)
    refine hB bX8_wordIs_21 _ _ _ _ _ _ _ kX8_wordIs_21 ?_
    dsimp only [bX8_wordIs_21, kx_wp, kx_step, kx_lI, kx_lL, kx_lA, kx_gl, kx_pI, kx_pL, kx_pR, kx_pA, kx_pV, kx_s1, kx_s2, kx_sl, kx_pre, kx_c2, kx_pl, kx_cmp, kx_oF, kx_eqN, kx_nil, kx_c1, kx_ft, kx_aI, kx_aL, kx_aR, kx_ln, Nat.reduceAdd, Option.toList, List.cons_append, List.nil_append, cf8_7, cf8_6, cf8_0]
    repeat (simp only [pk_us, pk_un, kz_uu, ne_eq, Nat.reduceEqDiff, not_false_eq_true, nI_1, cx_8s, cx_8ss, cx_8o, cx_8n (show ¬ (67:Nat) = 68 by decide), h6, h7, hT, zs, nI_add, ks_eq, ks_ss]; try dsimp only [kx_wp, kx_step, kx_lI, kx_lL, kx_lA, kx_gl, kx_pI, kx_pL, kx_pR, kx_pA, kx_pV, kx_s1, kx_s2, kx_sl, kx_pre, kx_c2, kx_pl, kx_cmp, kx_oF, kx_eqN, kx_nil, kx_c1, kx_ft, kx_aI, kx_aL, kx_aR, kx_ln, Nat.reduceAdd, Option.toList, List.cons_append, List.nil_append, cf8_7, cf8_6, cf8_0])
    repeat' apply And.intro
    all_goals try (first | with_reducible assumption | (with_reducible refine ck_nzI ?_; simp; done) | (with_reducible refine ck_nzL ?_; simp; done) | (with_reducible refine vp_in_nI ?_ ?_ <;> first | omega | decide) | (with_reducible refine Nat.le_of_ble_eq_true ?_; rfl) | omega | exact Or.inl trivial | exact Or.inr trivial | exact Or.inl rfl | exact Or.inr rfl)
    first | exact loop24 (kz_by i).length 0 (by have := (nI_eq (a := (kz_by i).length) (b := e - b) (by omega) (by omega)).mp ze13; omega) (by omega) (by unfold cx_is; rw [decide_eq_true ((nI_eq (a := (kz_by i).length) (b := e - b) (by omega) (by omega)).mp ze13)]; rfl) | exact out24 0 (by unfold cx_is; rw [decide_eq_false (fun q => ze13 (by rw [q]))]; rfl)
  · intro zc13
    with_reducible first | have ze13 := Decidable.not_not.mp zc13 | have ze13 := zc13
    refine hB bX8_wordIs_16 _ _ _ _ _ _ _ kX8_wordIs_16 ?_
    dsimp only [bX8_wordIs_16, kx_wp, kx_step, kx_lI, kx_lL, kx_lA, kx_gl, kx_pI, kx_pL, kx_pR, kx_pA, kx_pV, kx_s1, kx_s2, kx_sl, kx_pre, kx_c2, kx_pl, kx_cmp, kx_oF, kx_eqN, kx_nil, kx_c1, kx_ft, kx_aI, kx_aL, kx_aR, kx_ln, Nat.reduceAdd, Option.toList, List.cons_append, List.nil_append, cf8_7, cf8_6, cf8_0]
    repeat (simp only [pk_us, pk_un, kz_uu, ne_eq, Nat.reduceEqDiff, not_false_eq_true, nI_1, cx_8s, cx_8ss, cx_8o, cx_8n (show ¬ (67:Nat) = 68 by decide), h6, h7, hT, zs, nI_add, ks_eq, ks_ss]; try dsimp only [kx_wp, kx_step, kx_lI, kx_lL, kx_lA, kx_gl, kx_pI, kx_pL, kx_pR, kx_pA, kx_pV, kx_s1, kx_s2, kx_sl, kx_pre, kx_c2, kx_pl, kx_cmp, kx_oF, kx_eqN, kx_nil, kx_c1, kx_ft, kx_aI, kx_aL, kx_aR, kx_ln, Nat.reduceAdd, Option.toList, List.cons_append, List.nil_append, cf8_7, cf8_6, cf8_0])
    repeat' apply And.intro
    all_goals try (first | with_reducible assumption | (with_reducible refine ck_nzI ?_; simp; done) | (with_reducible refine ck_nzL ?_; simp; done) | (with_reducible refine vp_in_nI ?_ ?_ <;> first | omega | decide) | (with_reducible refine Nat.le_of_ble_eq_true ?_; rfl) | omega | exact Or.inl trivial | exact Or.inr trivial | exact Or.inl rfl | exact Or.inr rfl)
    refine hB bX8_wordIs_21 _ _ _ _ _ _ _ kX8_wordIs_21 ?_
    dsimp only [bX8_wordIs_21, kx_wp, kx_step, kx_lI, kx_lL, kx_lA, kx_gl, kx_pI, kx_pL, kx_pR, kx_pA, kx_pV, kx_s1, kx_s2, kx_sl, kx_pre, kx_c2, kx_pl, kx_cmp, kx_oF, kx_eqN, kx_nil, kx_c1, kx_ft, kx_aI, kx_aL, kx_aR, kx_ln, Nat.reduceAdd, Option.toList, List.cons_append, List.nil_append, cf8_7, cf8_6, cf8_0]
    repeat (simp only [pk_us, pk_un, kz_uu, ne_eq, Nat.reduceEqDiff, not_false_eq_true, nI_1, cx_8s, cx_8ss, cx_8o, cx_8n (show ¬ (67:Nat) = 68 by decide), h6, h7, hT, zs, nI_add, ks_eq, ks_ss]; try dsimp only [kx_wp, kx_step, kx_lI, kx_lL, kx_lA, kx_gl, kx_pI, kx_pL, kx_pR, kx_pA, kx_pV, kx_s1, kx_s2, kx_sl, kx_pre, kx_c2, kx_pl, kx_cmp, kx_oF, kx_eqN, kx_nil, kx_c1, kx_ft, kx_aI, kx_aL, kx_aR, kx_ln, Nat.reduceAdd, Option.toList, List.cons_append, List.nil_append, cf8_7, cf8_6, cf8_0])
    repeat' apply And.intro
    all_goals try (first | with_reducible assumption | (with_reducible refine ck_nzI ?_; simp; done) | (with_reducible refine ck_nzL ?_; simp; done) | (with_reducible refine vp_in_nI ?_ ?_ <;> first | omega | decide) | (with_reducible refine Nat.le_of_ble_eq_true ?_; rfl) | omega | exact Or.inl trivial | exact Or.inr trivial | exact Or.inl rfl | exact Or.inr rfl)
    first | exact loop24 (kz_by i).length 0 (by have := (nI_eq (a := (kz_by i).length) (b := e - b) (by omega) (by omega)).mp ze13; omega) (by omega) (by unfold cx_is; rw [decide_eq_true ((nI_eq (a := (kz_by i).length) (b := e - b) (by omega) (by omega)).mp ze13)]; rfl) | exact out24 0 (by unfold cx_is; rw [decide_eq_false (fun q => ze13 (by rw [q]))]; rfl)


/-! soundings -/
theorem cj_fill0 (g : Nat → Int32) (v : Int32) : ck_cp g (fun _ => v) 0 = g := by
  funext j
  unfold ck_cp
  rw [if_neg (Nat.not_lt_zero _)]
theorem cj_fill1 (g : Nat → Int32) (v : Int32) (k : Nat) : upd (ck_cp g (fun _ => v) k) k v = ck_cp g (fun _ => v) (k + 1) := by
  funext j
  unfold ck_cp upd
  dsimp only
  by_cases h1 : j = k
  · rw [if_pos h1, if_pos (by omega)]
  · rw [if_neg h1]
    by_cases h2 : j < k
    · rw [if_pos h2, if_pos (by omega)]
    · rw [if_neg h2, if_neg (by omega)]
def bJ7_fill_53178_0 : List kx_O := [(.iconst 0, 0, 0, 0, .int 0), (.istore_n 2, 2, 0, 0, .null), (.aload_n 0, 0, 0, 0, .null), (.arraylength, 0, 0, 0, .null), (.istore_n 3, 3, 0, 0, .null)]
theorem kJ7_fill_53178_0 : kx_oks kxL_J7 false cJ7_fill_53178 0 bJ7_fill_53178_0 = true := by decide +kernel
def bJ7_fill_53178_5 : List kx_O := [(.iload_n 2, 2, 0, 0, .null), (.iload_n 3, 3, 0, 0, .null), (.if_icmp .ge 13, 20, 0, 0, .null)]
theorem kJ7_fill_53178_5 : kx_oks kxL_J7 false cJ7_fill_53178 5 bJ7_fill_53178_5 = true := by decide +kernel
def bJ7_fill_53178_10 : List kx_O := [(.aload_n 0, 0, 0, 0, .null), (.iload_n 2, 2, 0, 0, .null), (.iload_n 1, 1, 0, 0, .null), (.iastore, 0, 0, 0, .null), (.iinc 2 1, 2, 0, 0, .int 1), (.goto (-12), 5, 0, 0, .null)]
theorem kJ7_fill_53178_10 : kx_oks kxL_J7 false cJ7_fill_53178 10 bJ7_fill_53178_10 = true := by decide +kernel
def bJ7_fill_53178_20 : List kx_O := [(.return_, 0, 0, 0, .null)]
theorem kJ7_fill_53178_20 : kx_oks kxL_J7 false cJ7_fill_53178 20 bJ7_fill_53178_20 = true := by decide +kernel
set_option maxRecDepth 100000 in
set_option maxHeartbeats 4000000 in
theorem ct_J7_fill_53178 (l : Launch) (G : kx_G) {P : kx_P} {sz : Nat} {a n : Nat} {f : Nat → Int32} {v : Int32} (ha : P a = kI 0 n f) (h64 : 64 ≤ a) (hn : n < 2 ^ 30)  : kx_M l G sJ7_fill_53178 1 0 0 [.ref a, .int (v)] P sz none (kx_set P a (kI 0 n (ck_cp f (fun _ => v) n))) sz := by
  refine kz_mkj kx_tab kxLok_J7 (ini := false) [some (.ref a), some (.int (v)), none, none] ⟨by decide +kernel, rfl, by decide, by decide⟩ (rfl) rfl rfl (fun g hB hC hK => ?_)
  have loop5 : ∀ (n9 : Nat) (k : Nat), k + n9 = n → g 5 [some (.ref a), some (.int v), some (.int (nI k)), some (.int (nI n))] [] (kx_set P a (kI 0 n (ck_cp f (fun _ => v) k))) sz 0 0 := by
    intro n9
    induction n9 with
    | zero =>
      intro k hk
      obtain rfl : k = n := by omega
      refine hB bJ7_fill_53178_5 _ _ _ _ _ _ _ kJ7_fill_53178_5 ?_
      dsimp only [bJ7_fill_53178_5, kx_wp, kx_step, kx_lI, kx_lL, kx_lA, kx_gl, kx_pI, kx_pL, kx_pR, kx_pA, kx_pV, kx_s1, kx_s2, kx_sl, kx_pre, kx_c2, kx_pl, kx_cmp, kx_oF, kx_eqN, kx_nil, kx_c1, kx_ft, kx_aI, kx_aL, kx_aR, kx_ln, Nat.reduceAdd, Option.toList, List.cons_append, List.nil_append]
      repeat (simp only [ha, nI_1, ks_eq, ks_ss, nI_clamp (show k < 2 ^ 31 by omega)]; try dsimp only [kx_wp, kx_step, kx_lI, kx_lL, kx_lA, kx_gl, kx_pI, kx_pL, kx_pR, kx_pA, kx_pV, kx_s1, kx_s2, kx_sl, kx_pre, kx_c2, kx_pl, kx_cmp, kx_oF, kx_eqN, kx_nil, kx_c1, kx_ft, kx_aI, kx_aL, kx_aR, kx_ln, Nat.reduceAdd, Option.toList, List.cons_append, List.nil_append])
      repeat' apply And.intro
      all_goals try (first | with_reducible assumption | (with_reducible refine ck_nzI ?_; simp; done) | (with_reducible refine ck_nzL ?_; simp; done) | (with_reducible refine vp_in_nI ?_ ?_ <;> first | omega | decide) | (with_reducible refine Nat.le_of_ble_eq_true ?_; rfl) | omega | exact Or.inl trivial | exact Or.inr trivial | exact Or.inl rfl | exact Or.inr rfl)
      · intro zc7
        with_reducible first | have ze7 := Int32.not_lt.mpr zc7 | have ze7 := zc7
        refine hB bJ7_fill_53178_20 _ _ _ _ _ _ _ kJ7_fill_53178_20 ?_
        dsimp only [bJ7_fill_53178_20, kx_wp, kx_step, kx_lI, kx_lL, kx_lA, kx_gl, kx_pI, kx_pL, kx_pR, kx_pA, kx_pV, kx_s1, kx_s2, kx_sl, kx_pre, kx_c2, kx_pl, kx_cmp, kx_oF, kx_eqN, kx_nil, kx_c1, kx_ft, kx_aI, kx_aL, kx_aR, kx_ln, Nat.reduceAdd, Option.toList, List.cons_append, List.nil_append]
        repeat (simp only [ha, nI_1, ks_eq, ks_ss, nI_clamp (show k < 2 ^ 31 by omega)]; try dsimp only [kx_wp, kx_step, kx_lI, kx_lL, kx_lA, kx_gl, kx_pI, kx_pL, kx_pR, kx_pA, kx_pV, kx_s1, kx_s2, kx_sl, kx_pre, kx_c2, kx_pl, kx_cmp, kx_oF, kx_eqN, kx_nil, kx_c1, kx_ft, kx_aI, kx_aL, kx_aR, kx_ln, Nat.reduceAdd, Option.toList, List.cons_append, List.nil_append])
        all_goals (repeat' apply And.intro)
        all_goals ((try clear hB hC); first | exact True.intro | with_reducible rfl | with_reducible assumption | (with_reducible refine vp_in_nI ?_ ?_ <;> first | omega | decide) | exact Nat.le_of_ble_eq_true rfl | (with_reducible refine ck_nzI ?_; simp; done) | (with_reducible refine ck_nzL ?_; simp; done) | (simp only [pk_us, pk_uLs, zc7, ze7, ↓reduceIte, not_true_eq_false, not_false_eq_true]; done) | (simp only [zc7, ze7, ↓reduceIte, not_true_eq_false, not_false_eq_true]; with_reducible rfl) | omega | skip)
      · intro zc7
        first | exact absurd rfl zc7 | exact absurd zc7 (by decide) | exact absurd (by decide) zc7 | (exfalso; first | exact absurd ((nI_leI (a := n) (b := k) (by omega) (by omega)).mp zc7) (by omega) | exact absurd ((nI_leI (a := k) (b := k) (by omega) (by omega)).mpr (by omega)) zc7) | (exfalso; simp_all; done)
    | succ n9 ih =>
      intro k hk
      refine hB bJ7_fill_53178_5 _ _ _ _ _ _ _ kJ7_fill_53178_5 ?_
      dsimp only [bJ7_fill_53178_5, kx_wp, kx_step, kx_lI, kx_lL, kx_lA, kx_gl, kx_pI, kx_pL, kx_pR, kx_pA, kx_pV, kx_s1, kx_s2, kx_sl, kx_pre, kx_c2, kx_pl, kx_cmp, kx_oF, kx_eqN, kx_nil, kx_c1, kx_ft, kx_aI, kx_aL, kx_aR, kx_ln, Nat.reduceAdd, Option.toList, List.cons_append, List.nil_append]
      repeat (simp only [ha, nI_1, ks_eq, ks_ss, nI_clamp (show k < 2 ^ 31 by omega)]; try dsimp only [kx_wp, kx_step, kx_lI, kx_lL, kx_lA, kx_gl, kx_pI, kx_pL, kx_pR, kx_pA, kx_pV, kx_s1, kx_s2, kx_sl, kx_pre, kx_c2, kx_pl, kx_cmp, kx_oF, kx_eqN, kx_nil, kx_c1, kx_ft, kx_aI, kx_aL, kx_aR, kx_ln, Nat.reduceAdd, Option.toList, List.cons_append, List.nil_append])
      repeat' apply And.intro
      all_goals try (first | with_reducible assumption | (with_reducible refine ck_nzI ?_; simp; done) | (with_reducible refine ck_nzL ?_; simp; done) | (with_reducible refine vp_in_nI ?_ ?_ <;> first | omega | decide) | (with_reducible refine Nat.le_of_ble_eq_true ?_; rfl) | omega | exact Or.inl trivial | exact Or.inr trivial | exact Or.inl rfl | exact Or.inr rfl)
      · intro zc7
        first | exact absurd rfl zc7 | exact absurd zc7 (by decide) | exact absurd (by decide) zc7 | (exfalso; first | exact absurd ((nI_leI (a := n) (b := k) (by omega) (by omega)).mp zc7) (by omega) | exact absurd ((nI_leI (a := k) (b := k) (by omega) (by omega)).mpr (by omega)) zc7) | (exfalso; simp_all; done)
      · intro zc7
        with_reducible first | have ze7 := Int32.not_le.mp zc7 | have ze7 := zc7
        refine hB bJ7_fill_53178_10 _ _ _ _ _ _ _ kJ7_fill_53178_10 ?_
        dsimp only [bJ7_fill_53178_10, kx_wp, kx_step, kx_lI, kx_lL, kx_lA, kx_gl, kx_pI, kx_pL, kx_pR, kx_pA, kx_pV, kx_s1, kx_s2, kx_sl, kx_pre, kx_c2, kx_pl, kx_cmp, kx_oF, kx_eqN, kx_nil, kx_c1, kx_ft, kx_aI, kx_aL, kx_aR, kx_ln, Nat.reduceAdd, Option.toList, List.cons_append, List.nil_append]
        repeat (simp only [ha, nI_1, ks_eq, ks_ss, nI_clamp (show k < 2 ^ 31 by omega)]; try dsimp only [kx_wp, kx_step, kx_lI, kx_lL, kx_lA, kx_gl, kx_pI, kx_pL, kx_pR, kx_pA, kx_pV, kx_s1, kx_s2, kx_sl, kx_pre, kx_c2, kx_pl, kx_cmp, kx_oF, kx_eqN, kx_nil, kx_c1, kx_ft, kx_aI, kx_aL, kx_aR, kx_ln, Nat.reduceAdd, Option.toList, List.cons_append, List.nil_append])
        repeat' apply And.intro
        all_goals try (first | with_reducible assumption | (with_reducible refine ck_nzI ?_; simp; done) | (with_reducible refine ck_nzL ?_; simp; done) | (with_reducible refine vp_in_nI ?_ ?_ <;> first | omega | decide) | (with_reducible refine Nat.le_of_ble_eq_true ?_; rfl) | omega | exact Or.inl trivial | exact Or.inr trivial | exact Or.inl rfl | exact Or.inr rfl)
        have zi := ih (k + 1) (by omega)
        rw [← cj_fill1] at zi
        exact zi
  refine hB bJ7_fill_53178_0 _ _ _ _ _ _ _ kJ7_fill_53178_0 ?_
  dsimp only [bJ7_fill_53178_0, kx_wp, kx_step, kx_lI, kx_lL, kx_lA, kx_gl, kx_pI, kx_pL, kx_pR, kx_pA, kx_pV, kx_s1, kx_s2, kx_sl, kx_pre, kx_c2, kx_pl, kx_cmp, kx_oF, kx_eqN, kx_nil, kx_c1, kx_ft, kx_aI, kx_aL, kx_aR, kx_ln, Nat.reduceAdd, Option.toList, List.cons_append, List.nil_append]
  repeat (simp only [ha, nI_1, ks_eq, ks_ss]; try dsimp only [kx_wp, kx_step, kx_lI, kx_lL, kx_lA, kx_gl, kx_pI, kx_pL, kx_pR, kx_pA, kx_pV, kx_s1, kx_s2, kx_sl, kx_pre, kx_c2, kx_pl, kx_cmp, kx_oF, kx_eqN, kx_nil, kx_c1, kx_ft, kx_aI, kx_aL, kx_aR, kx_ln, Nat.reduceAdd, Option.toList, List.cons_append, List.nil_append])
  repeat' apply And.intro
  all_goals try (first | with_reducible assumption | (with_reducible refine ck_nzI ?_; simp; done) | (with_reducible refine ck_nzL ?_; simp; done) | (with_reducible refine vp_in_nI ?_ ?_ <;> first | omega | decide) | (with_reducible refine Nat.le_of_ble_eq_true ?_; rfl) | omega | exact Or.inl trivial | exact Or.inr trivial | exact Or.inl rfl | exact Or.inr rfl)
  have zi := loop5 n 0 (by omega)
  rw [cj_fill0, ks_id ha] at zi
  exact zi

def sW (P : kx_P) (F X Y : Nat → Int32) : kx_P := kx_set (kx_set (kx_set P 76 (kI 0 120 X)) 77 (kI 0 120 Y)) 71 (kO 7 (kf cr7 F))
section SWS
variable {P : kx_P} {F X Y : Nat → Int32}
theorem sW_71 : sW P F X Y 71 = kO 7 (kf cr7 F) := ks_eq _ _ _
theorem sW_77 : sW P F X Y 77 = kI 0 120 Y := by unfold sW; rw [ks_ne (by decide), ks_eq]
theorem sW_76 : sW P F X Y 76 = kI 0 120 X := by unfold sW; rw [ks_ne (by decide), ks_ne (by decide), ks_eq]
theorem sW_o {n : Nat} (h1 : ¬ n = 71) (h2 : ¬ n = 76) (h3 : ¬ n = 77) : sW P F X Y n = P n := by unfold sW; rw [ks_ne h1, ks_ne h3, ks_ne h2]
theorem sW_p71 {F2 : Nat → Int32} : kx_set (sW P F X Y) 71 (kO 7 (kf cr7 F2)) = sW P F2 X Y := ks_ss _ _ _ _
theorem sW_p77 {Y2 : Nat → Int32} : kx_set (sW P F X Y) 77 (kI 0 120 Y2) = sW P F X Y2 := by unfold sW; rw [ks_co _ _ (by decide), ks_ss]
theorem sW_p76 {X2 : Nat → Int32} : kx_set (sW P F X Y) 76 (kI 0 120 X2) = sW P F X2 Y := by unfold sW; rw [ks_co _ _ (by decide), ks_co (P := kx_set P 76 _) _ _ (by decide), ks_ss]
end SWS
def cx_SR (P : kx_P) (q1 q2 q3 q4 : Nat → Int32) : Prop := P 72 = kI 0 200 q1 ∧ P 73 = kI 0 200 q2 ∧ P 74 = kI 0 200 q3 ∧ P 75 = kI 0 200 q4
def bX7_add_0 : List kx_O := [(.aload_n 0, 0, 0, 0, .null), (.getfield 24, 7, 4, 0, .null), (.sipush 200, 0, 0, 0, .int 200), (.irem, 0, 0, 0, .null), (.istore 5, 5, 0, 0, .null), (.aload_n 0, 0, 0, 0, .null), (.getfield 11, 7, 0, 0, .null), (.iload 5, 5, 0, 0, .null), (.iload_n 1, 1, 0, 0, .null), (.iastore, 0, 0, 0, .null), (.aload_n 0, 0, 0, 0, .null), (.getfield 15, 7, 1, 0, .null), (.iload 5, 5, 0, 0, .null), (.iload_n 2, 2, 0, 0, .null), (.iastore, 0, 0, 0, .null), (.aload_n 0, 0, 0, 0, .null), (.getfield 18, 7, 2, 0, .null), (.iload 5, 5, 0, 0, .null), (.iload_n 3, 3, 0, 0, .null), (.iastore, 0, 0, 0, .null), (.aload_n 0, 0, 0, 0, .null), (.getfield 21, 7, 3, 0, .null), (.iload 5, 5, 0, 0, .null), (.iload 4, 4, 0, 0, .null), (.iastore, 0, 0, 0, .null), (.aload_n 0, 0, 0, 0, .null), (.dup, 0, 0, 0, .null), (.getfield 24, 7, 4, 0, .null), (.iconst 1, 0, 0, 0, .int 1), (.iadd, 0, 0, 0, .null), (.putfield 24, 7, 4, 0, .null), (.return_, 0, 0, 0, .null)]
theorem kX7_add_0 : kx_oks kxL_X7 false cX7_add 0 bX7_add_0 = true := by decide +kernel
set_option maxRecDepth 100000 in
set_option maxHeartbeats 4000000 in
theorem ct_X7_add (l : Launch) (G : kx_G) {P : kx_P} {sz : Nat} {F X Y q1 q2 q3 q4 : Nat → Int32} (hS : cx_SR P q1 q2 q3 q4) {sd : Nat} (h4 : F 4 = nI sd) (hsd : sd < 2 ^ 29) {c s a b : Int32} (hO : P 71 = kO 7 (kf cr7 F))  : kx_M l G sX7_add 1 0 0 [.ref 71, .int (c), .int (s), .int (a), .int (b)] P sz none (kx_set (kx_set (kx_set (kx_set (kx_set P 72 (kI 0 200 (upd q1 (sd % 200) c))) 73 (kI 0 200 (upd q2 (sd % 200) s))) 74 (kI 0 200 (upd q3 (sd % 200) a))) 75 (kI 0 200 (upd q4 (sd % 200) b))) 71 (kO 7 (kf cr7 (upd F 4 (nI (sd + 1)))))) sz := by
  obtain ⟨s1, s2, s3, s4⟩ := hS
  have z1 : nI sd - nI sd / 200 * 200 = nI (sd % 200) := pk_rem (d := 200) (by omega) (by omega) (by omega)
  refine kx_mk kx_tab kxLok_X7 (ini := false) [some (.ref 71), some (.int (c)), some (.int (s)), some (.int (a)), some (.int (b)), none] ⟨by decide, rfl, by decide, by decide⟩ (rfl) rfl rfl (fun g hB hC => ?_)
  refine hB bX7_add_0 _ _ _ _ _ _ _ kX7_add_0 ?_
  dsimp only [bX7_add_0, kx_wp, kx_step, kx_lI, kx_lL, kx_lA, kx_gl, kx_pI, kx_pL, kx_pR, kx_pA, kx_pV, kx_s1, kx_s2, kx_sl, kx_pre, kx_c2, kx_pl, kx_cmp, kx_oF, kx_eqN, kx_nil, kx_c1, kx_ft, kx_aI, kx_aL, kx_aR, kx_ln, Nat.reduceAdd, Option.toList, List.cons_append, List.nil_append, cf7_4, cf7_0, cf7_1, cf7_2, cf7_3]
  repeat (simp only [hO, s1, s2, s3, s4, h4, z1, nI_1, nI_clamp (show sd % 200 < 2 ^ 31 by omega), ks_ne (show ¬ (71 : Nat) = 72 by decide), ks_ne (show ¬ (71 : Nat) = 73 by decide), ks_ne (show ¬ (71 : Nat) = 74 by decide), ks_ne (show ¬ (71 : Nat) = 75 by decide), ks_ne (show ¬ (72 : Nat) = 71 by decide), ks_ne (show ¬ (72 : Nat) = 73 by decide), ks_ne (show ¬ (72 : Nat) = 74 by decide), ks_ne (show ¬ (72 : Nat) = 75 by decide), ks_ne (show ¬ (73 : Nat) = 71 by decide), ks_ne (show ¬ (73 : Nat) = 72 by decide), ks_ne (show ¬ (73 : Nat) = 74 by decide), ks_ne (show ¬ (73 : Nat) = 75 by decide), ks_ne (show ¬ (74 : Nat) = 71 by decide), ks_ne (show ¬ (74 : Nat) = 72 by decide), ks_ne (show ¬ (74 : Nat) = 73 by decide), ks_ne (show ¬ (74 : Nat) = 75 by decide), ks_ne (show ¬ (75 : Nat) = 71 by decide), ks_ne (show ¬ (75 : Nat) = 72 by decide), ks_ne (show ¬ (75 : Nat) = 73 by decide), ks_ne (show ¬ (75 : Nat) = 74 by decide), cp7_4, ks_eq, ks_ss]; try dsimp only [kx_wp, kx_step, kx_lI, kx_lL, kx_lA, kx_gl, kx_pI, kx_pL, kx_pR, kx_pA, kx_pV, kx_s1, kx_s2, kx_sl, kx_pre, kx_c2, kx_pl, kx_cmp, kx_oF, kx_eqN, kx_nil, kx_c1, kx_ft, kx_aI, kx_aL, kx_aR, kx_ln, Nat.reduceAdd, Option.toList, List.cons_append, List.nil_append, cf7_4, cf7_0, cf7_1, cf7_2, cf7_3])
  all_goals (repeat' apply And.intro)
  all_goals ((try clear hB hC); first | exact True.intro | with_reducible rfl | with_reducible assumption | (with_reducible refine vp_in_nI ?_ ?_ <;> first | omega | decide) | exact Nat.le_of_ble_eq_true rfl | (with_reducible refine ck_nzI ?_; simp; done) | (with_reducible refine ck_nzL ?_; simp; done) | (simp only [pk_us, pk_uLs, ↓reduceIte, not_true_eq_false, not_false_eq_true]; done) | (simp only [↓reduceIte, not_true_eq_false, not_false_eq_true]; with_reducible rfl) | omega | skip)

theorem cj_min_n {a b : Nat} (ha : a < 2 ^ 31) (hb : b < 2 ^ 31) : cj_min (nI a) (nI b) = nI (min a b) := by
  unfold cj_min
  by_cases h : a ≤ b
  · rw [if_pos ((nI_leI ha hb).mpr h), Nat.min_eq_left h]
  · rw [if_neg (fun q => h ((nI_leI ha hb).mp q)), Nat.min_eq_right (by omega)]
theorem cj_max_n {a b : Nat} (ha : a < 2 ^ 31) (hb : b < 2 ^ 31) : cj_max (nI a) (nI b) = nI (max a b) := by
  unfold cj_max
  by_cases h : b ≤ a
  · rw [if_pos ((nI_leI hb ha).mpr h), Nat.max_eq_left h]
  · rw [if_neg (fun q => h ((nI_leI hb ha).mp q)), Nat.max_eq_right (by omega)]
def bX7_keptNow_0 : List kx_O := [(.aload_n 0, 0, 0, 0, .null), (.getfield 24, 7, 4, 0, .null), (.sipush 200, 0, 0, 0, .int 200)]
theorem kX7_keptNow_0 : kx_oks kxL_X7 false cX7_keptNow 0 bX7_keptNow_0 = true := by decide +kernel
def bX7_keptNow_10 : List kx_O := [(.ireturn, 0, 0, 0, .null)]
theorem kX7_keptNow_10 : kx_oks kxL_X7 false cX7_keptNow 10 bX7_keptNow_10 = true := by decide +kernel
theorem dX7_keptNow_7 : decode cX7_keptNow 7 = .ok (.invokestatic 40, 3) := by decide +kernel
set_option maxRecDepth 100000 in
set_option maxHeartbeats 4000000 in
theorem ct_X7_keptNow (l : Launch) (G : kx_G) {P : kx_P} {sz : Nat} {F : Nat → Int32} (hO : P 71 = kO 7 (kf cr7 F)) {sd : Nat} (h4 : F 4 = nI sd) (hsd : sd < 2 ^ 29)  : kx_M l G sX7_keptNow 2 0 0 [.ref 71] P sz (some (.int (nI (min sd 200)))) P sz := by
  have z1 : cj_min (nI sd) 200 = nI (min sd 200) := cj_min_n (b := 200) (by omega) (by omega)
  refine kx_mk kx_tab kxLok_X7 (ini := false) [some (.ref 71)] ⟨by decide, rfl, by decide, by decide⟩ (⟨_, rfl⟩) rfl rfl (fun g hB hC => ?_)
  refine hB bX7_keptNow_0 _ _ _ _ _ _ _ kX7_keptNow_0 ?_
  dsimp only [bX7_keptNow_0, kx_wp, kx_step, kx_lI, kx_lL, kx_lA, kx_gl, kx_pI, kx_pL, kx_pR, kx_pA, kx_pV, kx_s1, kx_s2, kx_sl, kx_pre, kx_c2, kx_pl, kx_cmp, kx_oF, kx_eqN, kx_nil, kx_c1, kx_ft, kx_aI, kx_aL, kx_aR, kx_ln, Nat.reduceAdd, Option.toList, List.cons_append, List.nil_append, cf7_4]
  repeat (simp only [hO, h4, z1, ks_eq, ks_ss]; try dsimp only [kx_wp, kx_step, kx_lI, kx_lL, kx_lA, kx_gl, kx_pI, kx_pL, kx_pR, kx_pA, kx_pV, kx_s1, kx_s2, kx_sl, kx_pre, kx_c2, kx_pl, kx_cmp, kx_oF, kx_eqN, kx_nil, kx_c1, kx_ft, kx_aI, kx_aL, kx_aR, kx_ln, Nat.reduceAdd, Option.toList, List.cons_append, List.nil_append, cf7_4])
  repeat' apply And.intro
  all_goals try (first | with_reducible assumption | (with_reducible refine ck_nzI ?_; simp; done) | (with_reducible refine ck_nzL ?_; simp; done) | (with_reducible refine vp_in_nI ?_ ?_ <;> first | omega | decide) | (with_reducible refine Nat.le_of_ble_eq_true ?_; rfl) | omega | exact Or.inl trivial | exact Or.inr trivial | exact Or.inl rfl | exact Or.inr rfl)
  refine hC.2.1 40 _ _ _ _ _ _ _ _ _ _ _ _ _ _ _ _ _ lX7_40 (ct_J9_min_7cf53 l G) rfl rfl (Nat.le_of_ble_eq_true rfl) (by decide) (by decide) (by omega) (by omega) dX7_keptNow_7 ?_
  refine hB bX7_keptNow_10 _ _ _ _ _ _ _ kX7_keptNow_10 ?_
  dsimp only [bX7_keptNow_10, kx_wp, kx_step, kx_lI, kx_lL, kx_lA, kx_gl, kx_pI, kx_pL, kx_pR, kx_pA, kx_pV, kx_s1, kx_s2, kx_sl, kx_pre, kx_c2, kx_pl, kx_cmp, kx_oF, kx_eqN, kx_nil, kx_c1, kx_ft, kx_aI, kx_aL, kx_aR, kx_ln, Nat.reduceAdd, Option.toList, List.cons_append, List.nil_append, cf7_4]
  repeat (simp only [hO, h4, z1, ks_eq, ks_ss]; try dsimp only [kx_wp, kx_step, kx_lI, kx_lL, kx_lA, kx_gl, kx_pI, kx_pL, kx_pR, kx_pA, kx_pV, kx_s1, kx_s2, kx_sl, kx_pre, kx_c2, kx_pl, kx_cmp, kx_oF, kx_eqN, kx_nil, kx_c1, kx_ft, kx_aI, kx_aL, kx_aR, kx_ln, Nat.reduceAdd, Option.toList, List.cons_append, List.nil_append, cf7_4])
  all_goals (repeat' apply And.intro)
  all_goals ((try clear hB hC); first | exact True.intro | with_reducible rfl | with_reducible assumption | (with_reducible refine vp_in_nI ?_ ?_ <;> first | omega | decide) | exact Nat.le_of_ble_eq_true rfl | (with_reducible refine ck_nzI ?_; simp; done) | (with_reducible refine ck_nzL ?_; simp; done) | (simp only [pk_us, pk_uLs, ↓reduceIte, not_true_eq_false, not_false_eq_true]; done) | (simp only [↓reduceIte, not_true_eq_false, not_false_eq_true]; with_reducible rfl) | omega | skip)

def bX7_rowOf_0 : List kx_O := [(.aload_n 0, 0, 0, 0, .null), (.getfield 24, 7, 4, 0, .null), (.iconst 1, 0, 0, 0, .int 1), (.isub, 0, 0, 0, .null), (.iload_n 1, 1, 0, 0, .null), (.isub, 0, 0, 0, .null), (.sipush 200, 0, 0, 0, .int 200)]
theorem kX7_rowOf_0 : kx_oks kxL_X7 false cX7_rowOf 0 bX7_rowOf_0 = true := by decide +kernel
def bX7_rowOf_14 : List kx_O := [(.ireturn, 0, 0, 0, .null)]
theorem kX7_rowOf_14 : kx_oks kxL_X7 false cX7_rowOf 14 bX7_rowOf_14 = true := by decide +kernel
theorem dX7_rowOf_11 : decode cX7_rowOf 11 = .ok (.invokestatic 46, 3) := by decide +kernel
set_option maxRecDepth 100000 in
set_option maxHeartbeats 4000000 in
theorem ct_X7_rowOf (l : Launch) (G : kx_G) {P : kx_P} {sz : Nat} {F : Nat → Int32} (hO : P 71 = kO 7 (kf cr7 F)) {sd : Nat} (h4 : F 4 = nI sd) (hsd : sd < 2 ^ 29) {k : Nat} (hk : k < sd)  : kx_M l G sX7_rowOf 2 0 0 [.ref 71, .int (nI k)] P sz (some (.int (nI ((sd - 1 - k) % 200)))) P sz := by
  have z1 : nI sd - 1 = nI (sd - 1) := pk_sub (a := sd) (b := 1) (by omega)
  have z2 : nI (sd - 1) - nI k = nI (sd - 1 - k) := pk_sub (by omega)
  have z3 : cj_fm (nI (sd - 1 - k)) 200 = nI ((sd - 1 - k) % 200) := cj_fm_n (n := 200) (by omega) (by omega) (by omega)
  refine kx_mk kx_tab kxLok_X7 (ini := false) [some (.ref 71), some (.int (nI k))] ⟨by decide, rfl, by decide, by decide⟩ (⟨_, rfl⟩) rfl rfl (fun g hB hC => ?_)
  refine hB bX7_rowOf_0 _ _ _ _ _ _ _ kX7_rowOf_0 ?_
  dsimp only [bX7_rowOf_0, kx_wp, kx_step, kx_lI, kx_lL, kx_lA, kx_gl, kx_pI, kx_pL, kx_pR, kx_pA, kx_pV, kx_s1, kx_s2, kx_sl, kx_pre, kx_c2, kx_pl, kx_cmp, kx_oF, kx_eqN, kx_nil, kx_c1, kx_ft, kx_aI, kx_aL, kx_aR, kx_ln, Nat.reduceAdd, Option.toList, List.cons_append, List.nil_append, cf7_4]
  repeat (simp only [hO, h4, z1, z2, z3, ks_eq, ks_ss]; try dsimp only [kx_wp, kx_step, kx_lI, kx_lL, kx_lA, kx_gl, kx_pI, kx_pL, kx_pR, kx_pA, kx_pV, kx_s1, kx_s2, kx_sl, kx_pre, kx_c2, kx_pl, kx_cmp, kx_oF, kx_eqN, kx_nil, kx_c1, kx_ft, kx_aI, kx_aL, kx_aR, kx_ln, Nat.reduceAdd, Option.toList, List.cons_append, List.nil_append, cf7_4])
  repeat' apply And.intro
  all_goals try (first | with_reducible assumption | (with_reducible refine ck_nzI ?_; simp; done) | (with_reducible refine ck_nzL ?_; simp; done) | (with_reducible refine vp_in_nI ?_ ?_ <;> first | omega | decide) | (with_reducible refine Nat.le_of_ble_eq_true ?_; rfl) | omega | exact Or.inl trivial | exact Or.inr trivial | exact Or.inl rfl | exact Or.inr rfl)
  refine hC.2.1 46 _ _ _ _ _ _ _ _ _ _ _ _ _ _ _ _ _ lX7_46 (ct_J9_floorMod_7cf53 l G (by decide)) rfl rfl (Nat.le_of_ble_eq_true rfl) (by decide) (by decide) (by omega) (by omega) dX7_rowOf_11 ?_
  refine hB bX7_rowOf_14 _ _ _ _ _ _ _ kX7_rowOf_14 ?_
  dsimp only [bX7_rowOf_14, kx_wp, kx_step, kx_lI, kx_lL, kx_lA, kx_gl, kx_pI, kx_pL, kx_pR, kx_pA, kx_pV, kx_s1, kx_s2, kx_sl, kx_pre, kx_c2, kx_pl, kx_cmp, kx_oF, kx_eqN, kx_nil, kx_c1, kx_ft, kx_aI, kx_aL, kx_aR, kx_ln, Nat.reduceAdd, Option.toList, List.cons_append, List.nil_append, cf7_4]
  repeat (simp only [hO, h4, z1, z2, z3, ks_eq, ks_ss]; try dsimp only [kx_wp, kx_step, kx_lI, kx_lL, kx_lA, kx_gl, kx_pI, kx_pL, kx_pR, kx_pA, kx_pV, kx_s1, kx_s2, kx_sl, kx_pre, kx_c2, kx_pl, kx_cmp, kx_oF, kx_eqN, kx_nil, kx_c1, kx_ft, kx_aI, kx_aL, kx_aR, kx_ln, Nat.reduceAdd, Option.toList, List.cons_append, List.nil_append, cf7_4])
  all_goals (repeat' apply And.intro)
  all_goals ((try clear hB hC); first | exact True.intro | with_reducible rfl | with_reducible assumption | (with_reducible refine vp_in_nI ?_ ?_ <;> first | omega | decide) | exact Nat.le_of_ble_eq_true rfl | (with_reducible refine ck_nzI ?_; simp; done) | (with_reducible refine ck_nzL ?_; simp; done) | (simp only [pk_us, pk_uLs, ↓reduceIte, not_true_eq_false, not_false_eq_true]; done) | (simp only [↓reduceIte, not_true_eq_false, not_false_eq_true]; with_reducible rfl) | omega | skip)

def bX7_takenFor_0 : List kx_O := [(.aload_n 0, 0, 0, 0, .null), (.getfield 34, 7, 7, 0, .null), (.ifCond .ne 7, 11, 0, 0, .null)]
theorem kX7_takenFor_0 : kx_oks kxL_X7 false cX7_takenFor 0 bX7_takenFor_0 = true := by decide +kernel
def bX7_takenFor_7 : List kx_O := [(.iconst 0, 0, 0, 0, .int 0), (.goto 15, 23, 0, 0, .null)]
theorem kX7_takenFor_7 : kx_oks kxL_X7 false cX7_takenFor 7 bX7_takenFor_7 = true := by decide +kernel
def bX7_takenFor_11 : List kx_O := [(.aload_n 0, 0, 0, 0, .null), (.getfield 34, 7, 7, 0, .null), (.bipush 11, 0, 0, 0, .int 11), (.iadd, 0, 0, 0, .null), (.bipush 12, 0, 0, 0, .int 12), (.irem, 0, 0, 0, .null), (.iconst 1, 0, 0, 0, .int 1), (.iadd, 0, 0, 0, .null)]
theorem kX7_takenFor_11 : kx_oks kxL_X7 false cX7_takenFor 11 bX7_takenFor_11 = true := by decide +kernel
def bX7_takenFor_23 : List kx_O := [(.ireturn, 0, 0, 0, .null)]
theorem kX7_takenFor_23 : kx_oks kxL_X7 false cX7_takenFor 23 bX7_takenFor_23 = true := by decide +kernel
set_option maxRecDepth 100000 in
set_option maxHeartbeats 4000000 in
theorem ct_X7_takenFor (l : Launch) (G : kx_G) {P : kx_P} {sz : Nat} {F : Nat → Int32} (hO : P 71 = kO 7 (kf cr7 F))  : kx_M l G sX7_takenFor 1 0 0 [.ref 71] P sz (some (.int (if F 7 = 0 then 0 else ck_us (F 7)))) P sz := by
  refine kx_mk kx_tab kxLok_X7 (ini := false) [some (.ref 71)] ⟨by decide, rfl, by decide, by decide⟩ (⟨_, rfl⟩) rfl rfl (fun g hB hC => ?_)
  refine hB bX7_takenFor_0 _ _ _ _ _ _ _ kX7_takenFor_0 ?_
  dsimp only [bX7_takenFor_0, kx_wp, kx_step, kx_lI, kx_lL, kx_lA, kx_gl, kx_pI, kx_pL, kx_pR, kx_pA, kx_pV, kx_s1, kx_s2, kx_sl, kx_pre, kx_c2, kx_pl, kx_cmp, kx_oF, kx_eqN, kx_nil, kx_c1, kx_ft, kx_aI, kx_aL, kx_aR, kx_ln, Nat.reduceAdd, Option.toList, List.cons_append, List.nil_append, cf7_7]
  repeat (simp only [hO, ks_eq, ks_ss]; try dsimp only [kx_wp, kx_step, kx_lI, kx_lL, kx_lA, kx_gl, kx_pI, kx_pL, kx_pR, kx_pA, kx_pV, kx_s1, kx_s2, kx_sl, kx_pre, kx_c2, kx_pl, kx_cmp, kx_oF, kx_eqN, kx_nil, kx_c1, kx_ft, kx_aI, kx_aL, kx_aR, kx_ln, Nat.reduceAdd, Option.toList, List.cons_append, List.nil_append, cf7_7])
  repeat' apply And.intro
  all_goals try (first | with_reducible assumption | (with_reducible refine ck_nzI ?_; simp; done) | (with_reducible refine ck_nzL ?_; simp; done) | (with_reducible refine vp_in_nI ?_ ?_ <;> first | omega | decide) | (with_reducible refine Nat.le_of_ble_eq_true ?_; rfl) | omega | exact Or.inl trivial | exact Or.inr trivial | exact Or.inl rfl | exact Or.inr rfl)
  · intro zc4
    have ze4 := zc4
    refine hB bX7_takenFor_11 _ _ _ _ _ _ _ kX7_takenFor_11 ?_
    dsimp only [bX7_takenFor_11, kx_wp, kx_step, kx_lI, kx_lL, kx_lA, kx_gl, kx_pI, kx_pL, kx_pR, kx_pA, kx_pV, kx_s1, kx_s2, kx_sl, kx_pre, kx_c2, kx_pl, kx_cmp, kx_oF, kx_eqN, kx_nil, kx_c1, kx_ft, kx_aI, kx_aL, kx_aR, kx_ln, Nat.reduceAdd, Option.toList, List.cons_append, List.nil_append, cf7_7]
    repeat (simp only [hO, ks_eq, ks_ss]; try dsimp only [kx_wp, kx_step, kx_lI, kx_lL, kx_lA, kx_gl, kx_pI, kx_pL, kx_pR, kx_pA, kx_pV, kx_s1, kx_s2, kx_sl, kx_pre, kx_c2, kx_pl, kx_cmp, kx_oF, kx_eqN, kx_nil, kx_c1, kx_ft, kx_aI, kx_aL, kx_aR, kx_ln, Nat.reduceAdd, Option.toList, List.cons_append, List.nil_append, cf7_7])
    repeat' apply And.intro
    all_goals try (first | with_reducible assumption | (with_reducible refine ck_nzI ?_; simp; done) | (with_reducible refine ck_nzL ?_; simp; done) | (with_reducible refine vp_in_nI ?_ ?_ <;> first | omega | decide) | (with_reducible refine Nat.le_of_ble_eq_true ?_; rfl) | omega | exact Or.inl trivial | exact Or.inr trivial | exact Or.inl rfl | exact Or.inr rfl)
    refine hB bX7_takenFor_23 _ _ _ _ _ _ _ kX7_takenFor_23 ?_
    dsimp only [bX7_takenFor_23, kx_wp, kx_step, kx_lI, kx_lL, kx_lA, kx_gl, kx_pI, kx_pL, kx_pR, kx_pA, kx_pV, kx_s1, kx_s2, kx_sl, kx_pre, kx_c2, kx_pl, kx_cmp, kx_oF, kx_eqN, kx_nil, kx_c1, kx_ft, kx_aI, kx_aL, kx_aR, kx_ln, Nat.reduceAdd, Option.toList, List.cons_append, List.nil_append, cf7_7]
    repeat (simp only [hO, ks_eq, ks_ss]; try dsimp only [kx_wp, kx_step, kx_lI, kx_lL, kx_lA, kx_gl, kx_pI, kx_pL, kx_pR, kx_pA, kx_pV, kx_s1, kx_s2, kx_sl, kx_pre, kx_c2, kx_pl, kx_cmp, kx_oF, kx_eqN, kx_nil, kx_c1, kx_ft, kx_aI, kx_aL, kx_aR, kx_ln, Nat.reduceAdd, Option.toList, List.cons_append, List.nil_append, cf7_7])
    all_goals (repeat' apply And.intro)
    all_goals ((try clear hB hC); first | exact True.intro | (simp only [ck_us, ze4, ↓reduceIte]; done))
  · intro zc4
    with_reducible first | have ze4 := Decidable.not_not.mp zc4 | have ze4 := zc4
    refine hB bX7_takenFor_7 _ _ _ _ _ _ _ kX7_takenFor_7 ?_
    dsimp only [bX7_takenFor_7, kx_wp, kx_step, kx_lI, kx_lL, kx_lA, kx_gl, kx_pI, kx_pL, kx_pR, kx_pA, kx_pV, kx_s1, kx_s2, kx_sl, kx_pre, kx_c2, kx_pl, kx_cmp, kx_oF, kx_eqN, kx_nil, kx_c1, kx_ft, kx_aI, kx_aL, kx_aR, kx_ln, Nat.reduceAdd, Option.toList, List.cons_append, List.nil_append, cf7_7]
    repeat (simp only [hO, ks_eq, ks_ss]; try dsimp only [kx_wp, kx_step, kx_lI, kx_lL, kx_lA, kx_gl, kx_pI, kx_pL, kx_pR, kx_pA, kx_pV, kx_s1, kx_s2, kx_sl, kx_pre, kx_c2, kx_pl, kx_cmp, kx_oF, kx_eqN, kx_nil, kx_c1, kx_ft, kx_aI, kx_aL, kx_aR, kx_ln, Nat.reduceAdd, Option.toList, List.cons_append, List.nil_append, cf7_7])
    repeat' apply And.intro
    all_goals try (first | with_reducible assumption | (with_reducible refine ck_nzI ?_; simp; done) | (with_reducible refine ck_nzL ?_; simp; done) | (with_reducible refine vp_in_nI ?_ ?_ <;> first | omega | decide) | (with_reducible refine Nat.le_of_ble_eq_true ?_; rfl) | omega | exact Or.inl trivial | exact Or.inr trivial | exact Or.inl rfl | exact Or.inr rfl)
    refine hB bX7_takenFor_23 _ _ _ _ _ _ _ kX7_takenFor_23 ?_
    dsimp only [bX7_takenFor_23, kx_wp, kx_step, kx_lI, kx_lL, kx_lA, kx_gl, kx_pI, kx_pL, kx_pR, kx_pA, kx_pV, kx_s1, kx_s2, kx_sl, kx_pre, kx_c2, kx_pl, kx_cmp, kx_oF, kx_eqN, kx_nil, kx_c1, kx_ft, kx_aI, kx_aL, kx_aR, kx_ln, Nat.reduceAdd, Option.toList, List.cons_append, List.nil_append, cf7_7]
    repeat (simp only [hO, ks_eq, ks_ss]; try dsimp only [kx_wp, kx_step, kx_lI, kx_lL, kx_lA, kx_gl, kx_pI, kx_pL, kx_pR, kx_pA, kx_pV, kx_s1, kx_s2, kx_sl, kx_pre, kx_c2, kx_pl, kx_cmp, kx_oF, kx_eqN, kx_nil, kx_c1, kx_ft, kx_aI, kx_aL, kx_aR, kx_ln, Nat.reduceAdd, Option.toList, List.cons_append, List.nil_append, cf7_7])
    all_goals (repeat' apply And.intro)
    all_goals ((try clear hB hC); first | exact True.intro | (simp only [ck_us, eq_true ze4, ↓reduceIte]; done))

def bX7_partOf_0 : List kx_O := [(.iload_n 1, 1, 0, 0, .null), (.ifCond .lt 11, 12, 0, 0, .null)]
theorem kX7_partOf_0 : kx_oks kxL_X7 false cX7_partOf 0 bX7_partOf_0 = true := by decide +kernel
def bX7_partOf_4 : List kx_O := [(.iload_n 1, 1, 0, 0, .null), (.aload_n 0, 0, 0, 0, .null)]
theorem kX7_partOf_4 : kx_oks kxL_X7 false cX7_partOf 4 bX7_partOf_4 = true := by decide +kernel
def bX7_partOf_9 : List kx_O := [(.if_icmp .lt 5, 14, 0, 0, .null)]
theorem kX7_partOf_9 : kx_oks kxL_X7 false cX7_partOf 9 bX7_partOf_9 = true := by decide +kernel
def bX7_partOf_12 : List kx_O := [(.iconst (-1), 0, 0, 0, .int (-1)), (.ireturn, 0, 0, 0, .null)]
theorem kX7_partOf_12 : kx_oks kxL_X7 false cX7_partOf 12 bX7_partOf_12 = true := by decide +kernel
def bX7_partOf_14 : List kx_O := [(.aload_n 0, 0, 0, 0, .null), (.iload_n 1, 1, 0, 0, .null)]
theorem kX7_partOf_14 : kx_oks kxL_X7 false cX7_partOf 14 bX7_partOf_14 = true := by decide +kernel
def bX7_partOf_19 : List kx_O := [(.istore_n 3, 3, 0, 0, .null), (.iload_n 2, 2, 0, 0, .null), (.tableswitch 48 0 2 #[27, 34, 41], 69, 27, 0, .null)]
theorem kX7_partOf_19 : kx_oks kxL_X7 false cX7_partOf 19 bX7_partOf_19 = true := by decide +kernel
def bX7_partOf_48 : List kx_O := [(.aload_n 0, 0, 0, 0, .null), (.getfield 11, 7, 0, 0, .null), (.iload_n 3, 3, 0, 0, .null), (.iaload, 0, 0, 0, .null), (.ireturn, 0, 0, 0, .null)]
theorem kX7_partOf_48 : kx_oks kxL_X7 false cX7_partOf 48 bX7_partOf_48 = true := by decide +kernel
def bX7_partOf_55 : List kx_O := [(.aload_n 0, 0, 0, 0, .null), (.getfield 15, 7, 1, 0, .null), (.iload_n 3, 3, 0, 0, .null), (.iaload, 0, 0, 0, .null), (.ireturn, 0, 0, 0, .null)]
theorem kX7_partOf_55 : kx_oks kxL_X7 false cX7_partOf 55 bX7_partOf_55 = true := by decide +kernel
def bX7_partOf_62 : List kx_O := [(.aload_n 0, 0, 0, 0, .null), (.getfield 18, 7, 2, 0, .null), (.iload_n 3, 3, 0, 0, .null), (.iaload, 0, 0, 0, .null), (.ireturn, 0, 0, 0, .null)]
theorem kX7_partOf_62 : kx_oks kxL_X7 false cX7_partOf 62 bX7_partOf_62 = true := by decide +kernel
def bX7_partOf_69 : List kx_O := [(.aload_n 0, 0, 0, 0, .null), (.getfield 21, 7, 3, 0, .null), (.iload_n 3, 3, 0, 0, .null), (.iaload, 0, 0, 0, .null), (.ireturn, 0, 0, 0, .null)]
theorem kX7_partOf_69 : kx_oks kxL_X7 false cX7_partOf 69 bX7_partOf_69 = true := by decide +kernel
theorem dX7_partOf_6 : decode cX7_partOf 6 = .ok (.invokevirtual 49, 3) := by decide +kernel
theorem dX7_partOf_16 : decode cX7_partOf 16 = .ok (.invokevirtual 53, 3) := by decide +kernel
set_option maxRecDepth 100000 in
set_option maxHeartbeats 4000000 in
theorem ct_X7_partOf_n (l : Launch) (G : kx_G) {P : kx_P} {sz : Nat} {F : Nat → Int32} (hO : P 71 = kO 7 (kf cr7 F)) {sd : Nat} (h4 : F 4 = nI sd) (hsd : sd < 2 ^ 29) {x w : Int32} (hx : ¬ (0 ≤ x ∧ x < nI (min sd 200)))  : kx_M l G sX7_partOf 3 0 0 [.ref 71, .int (x), .int (w)] P sz (some (.int (-1))) P sz := by
  refine kx_mk kx_tab kxLok_X7 (ini := false) [some (.ref 71), some (.int (x)), some (.int (w)), none] ⟨by decide, rfl, by decide, by decide⟩ (⟨_, rfl⟩) rfl rfl (fun g hB hC => ?_)
  refine hB bX7_partOf_0 _ _ _ _ _ _ _ kX7_partOf_0 ?_
  dsimp only [bX7_partOf_0, kx_wp, kx_step, kx_lI, kx_lL, kx_lA, kx_gl, kx_pI, kx_pL, kx_pR, kx_pA, kx_pV, kx_s1, kx_s2, kx_sl, kx_pre, kx_c2, kx_pl, kx_cmp, kx_oF, kx_eqN, kx_nil, kx_c1, kx_ft, kx_aI, kx_aL, kx_aR, kx_ln, Nat.reduceAdd, Option.toList, List.cons_append, List.nil_append, cf7_0, cf7_1, cf7_2, cf7_3]
  repeat (simp only [hO, ks_eq, ks_ss]; try dsimp only [kx_wp, kx_step, kx_lI, kx_lL, kx_lA, kx_gl, kx_pI, kx_pL, kx_pR, kx_pA, kx_pV, kx_s1, kx_s2, kx_sl, kx_pre, kx_c2, kx_pl, kx_cmp, kx_oF, kx_eqN, kx_nil, kx_c1, kx_ft, kx_aI, kx_aL, kx_aR, kx_ln, Nat.reduceAdd, Option.toList, List.cons_append, List.nil_append, cf7_0, cf7_1, cf7_2, cf7_3])
  repeat' apply And.intro
  all_goals try (first | with_reducible assumption | (with_reducible refine ck_nzI ?_; simp; done) | (with_reducible refine ck_nzL ?_; simp; done) | (with_reducible refine vp_in_nI ?_ ?_ <;> first | omega | decide) | (with_reducible refine Nat.le_of_ble_eq_true ?_; rfl) | omega | exact Or.inl trivial | exact Or.inr trivial | exact Or.inl rfl | exact Or.inr rfl)
  · intro zc1
    with_reducible first | have ze1 := Int32.not_le.mpr zc1 | have ze1 := zc1
    refine hB bX7_partOf_12 _ _ _ _ _ _ _ kX7_partOf_12 ?_
    dsimp only [bX7_partOf_12, kx_wp, kx_step, kx_lI, kx_lL, kx_lA, kx_gl, kx_pI, kx_pL, kx_pR, kx_pA, kx_pV, kx_s1, kx_s2, kx_sl, kx_pre, kx_c2, kx_pl, kx_cmp, kx_oF, kx_eqN, kx_nil, kx_c1, kx_ft, kx_aI, kx_aL, kx_aR, kx_ln, Nat.reduceAdd, Option.toList, List.cons_append, List.nil_append, cf7_0, cf7_1, cf7_2, cf7_3]
    repeat (simp only [hO, ks_eq, ks_ss]; try dsimp only [kx_wp, kx_step, kx_lI, kx_lL, kx_lA, kx_gl, kx_pI, kx_pL, kx_pR, kx_pA, kx_pV, kx_s1, kx_s2, kx_sl, kx_pre, kx_c2, kx_pl, kx_cmp, kx_oF, kx_eqN, kx_nil, kx_c1, kx_ft, kx_aI, kx_aL, kx_aR, kx_ln, Nat.reduceAdd, Option.toList, List.cons_append, List.nil_append, cf7_0, cf7_1, cf7_2, cf7_3])
    all_goals (repeat' apply And.intro)
    all_goals ((try clear hB hC); first | exact True.intro | with_reducible rfl | with_reducible assumption | (with_reducible refine vp_in_nI ?_ ?_ <;> first | omega | decide) | exact Nat.le_of_ble_eq_true rfl | (with_reducible refine ck_nzI ?_; simp; done) | (with_reducible refine ck_nzL ?_; simp; done) | (simp only [pk_us, pk_uLs, zc1, ze1, ↓reduceIte, not_true_eq_false, not_false_eq_true]; done) | (simp only [zc1, ze1, ↓reduceIte, not_true_eq_false, not_false_eq_true]; with_reducible rfl) | omega | skip)
  · intro zc1
    with_reducible first | have ze1 := Int32.not_lt.mp zc1 | have ze1 := zc1
    refine hB bX7_partOf_4 _ _ _ _ _ _ _ kX7_partOf_4 ?_
    dsimp only [bX7_partOf_4, kx_wp, kx_step, kx_lI, kx_lL, kx_lA, kx_gl, kx_pI, kx_pL, kx_pR, kx_pA, kx_pV, kx_s1, kx_s2, kx_sl, kx_pre, kx_c2, kx_pl, kx_cmp, kx_oF, kx_eqN, kx_nil, kx_c1, kx_ft, kx_aI, kx_aL, kx_aR, kx_ln, Nat.reduceAdd, Option.toList, List.cons_append, List.nil_append, cf7_0, cf7_1, cf7_2, cf7_3]
    repeat (simp only [hO, ks_eq, ks_ss]; try dsimp only [kx_wp, kx_step, kx_lI, kx_lL, kx_lA, kx_gl, kx_pI, kx_pL, kx_pR, kx_pA, kx_pV, kx_s1, kx_s2, kx_sl, kx_pre, kx_c2, kx_pl, kx_cmp, kx_oF, kx_eqN, kx_nil, kx_c1, kx_ft, kx_aI, kx_aL, kx_aR, kx_ln, Nat.reduceAdd, Option.toList, List.cons_append, List.nil_append, cf7_0, cf7_1, cf7_2, cf7_3])
    repeat' apply And.intro
    all_goals try (first | with_reducible assumption | (with_reducible refine ck_nzI ?_; simp; done) | (with_reducible refine ck_nzL ?_; simp; done) | (with_reducible refine vp_in_nI ?_ ?_ <;> first | omega | decide) | (with_reducible refine Nat.le_of_ble_eq_true ?_; rfl) | omega | exact Or.inl trivial | exact Or.inr trivial | exact Or.inl rfl | exact Or.inr rfl)
    refine hC.1 49 _ _ _ _ _ _ _ 7 _ _ _ _ _ _ _ _ _ _ _ _ lX7_49 (ct_X7_keptNow l G hO h4 hsd) ⟨by decide, rfl⟩ (by first | assumption | (simp only [hO, ks_eq, ks_ss])) rfl rfl (Nat.le_of_ble_eq_true rfl) (by decide) (by decide) (by omega) (by omega) dX7_partOf_6 ?_
    refine hB bX7_partOf_9 _ _ _ _ _ _ _ kX7_partOf_9 ?_
    dsimp only [bX7_partOf_9, kx_wp, kx_step, kx_lI, kx_lL, kx_lA, kx_gl, kx_pI, kx_pL, kx_pR, kx_pA, kx_pV, kx_s1, kx_s2, kx_sl, kx_pre, kx_c2, kx_pl, kx_cmp, kx_oF, kx_eqN, kx_nil, kx_c1, kx_ft, kx_aI, kx_aL, kx_aR, kx_ln, Nat.reduceAdd, Option.toList, List.cons_append, List.nil_append, cf7_0, cf7_1, cf7_2, cf7_3]
    repeat (simp only [hO, ks_eq, ks_ss]; try dsimp only [kx_wp, kx_step, kx_lI, kx_lL, kx_lA, kx_gl, kx_pI, kx_pL, kx_pR, kx_pA, kx_pV, kx_s1, kx_s2, kx_sl, kx_pre, kx_c2, kx_pl, kx_cmp, kx_oF, kx_eqN, kx_nil, kx_c1, kx_ft, kx_aI, kx_aL, kx_aR, kx_ln, Nat.reduceAdd, Option.toList, List.cons_append, List.nil_append, cf7_0, cf7_1, cf7_2, cf7_3])
    repeat' apply And.intro
    all_goals try (first | with_reducible assumption | (with_reducible refine ck_nzI ?_; simp; done) | (with_reducible refine ck_nzL ?_; simp; done) | (with_reducible refine vp_in_nI ?_ ?_ <;> first | omega | decide) | (with_reducible refine Nat.le_of_ble_eq_true ?_; rfl) | omega | exact Or.inl trivial | exact Or.inr trivial | exact Or.inl rfl | exact Or.inr rfl)
    · intro zc9
      first | exact absurd rfl zc9 | exact absurd zc9 (by decide) | exact absurd (by decide) zc9 | (exfalso; exact hx ⟨Int32.not_lt.mp zc1, zc9⟩) | (exfalso; simp_all; done)
    · intro zc9
      with_reducible first | have ze9 := Int32.not_lt.mp zc9 | have ze9 := zc9
      refine hB bX7_partOf_12 _ _ _ _ _ _ _ kX7_partOf_12 ?_
      dsimp only [bX7_partOf_12, kx_wp, kx_step, kx_lI, kx_lL, kx_lA, kx_gl, kx_pI, kx_pL, kx_pR, kx_pA, kx_pV, kx_s1, kx_s2, kx_sl, kx_pre, kx_c2, kx_pl, kx_cmp, kx_oF, kx_eqN, kx_nil, kx_c1, kx_ft, kx_aI, kx_aL, kx_aR, kx_ln, Nat.reduceAdd, Option.toList, List.cons_append, List.nil_append, cf7_0, cf7_1, cf7_2, cf7_3]
      repeat (simp only [hO, ks_eq, ks_ss]; try dsimp only [kx_wp, kx_step, kx_lI, kx_lL, kx_lA, kx_gl, kx_pI, kx_pL, kx_pR, kx_pA, kx_pV, kx_s1, kx_s2, kx_sl, kx_pre, kx_c2, kx_pl, kx_cmp, kx_oF, kx_eqN, kx_nil, kx_c1, kx_ft, kx_aI, kx_aL, kx_aR, kx_ln, Nat.reduceAdd, Option.toList, List.cons_append, List.nil_append, cf7_0, cf7_1, cf7_2, cf7_3])
      all_goals (repeat' apply And.intro)
      all_goals ((try clear hB hC); first | exact True.intro | with_reducible rfl | with_reducible assumption | (with_reducible refine vp_in_nI ?_ ?_ <;> first | omega | decide) | exact Nat.le_of_ble_eq_true rfl | (with_reducible refine ck_nzI ?_; simp; done) | (with_reducible refine ck_nzL ?_; simp; done) | (simp only [pk_us, pk_uLs, zc1, ze1, zc9, ze9, ↓reduceIte, not_true_eq_false, not_false_eq_true]; done) | (simp only [zc1, ze1, zc9, ze9, ↓reduceIte, not_true_eq_false, not_false_eq_true]; with_reducible rfl) | omega | skip)

def cx_pt (q1 q2 q3 q4 : Nat → Int32) (i : Nat) (w : Int32) : Int32 := if w = 0 then q1 i else if w = 1 then q2 i else if w = 2 then q3 i else q4 i
set_option maxRecDepth 100000 in
set_option maxHeartbeats 4000000 in
theorem ct_X7_partOf_t (l : Launch) (G : kx_G) {P : kx_P} {sz : Nat} {F : Nat → Int32} (hO : P 71 = kO 7 (kf cr7 F)) {sd : Nat} (h4 : F 4 = nI sd) (hsd : sd < 2 ^ 29) {q1 q2 q3 q4 : Nat → Int32} (hS : cx_SR P q1 q2 q3 q4) {k : Nat} {w : Int32} (hk : k < sd) (hk2 : k < 200)  : kx_M l G sX7_partOf 3 0 0 [.ref 71, .int (nI k), .int (w)] P sz (some (.int (cx_pt q1 q2 q3 q4 ((sd - 1 - k) % 200) w))) P sz := by
  obtain ⟨s1, s2, s3, s4⟩ := hS
  refine kx_mk kx_tab kxLok_X7 (ini := false) [some (.ref 71), some (.int (nI k)), some (.int (w)), none] ⟨by decide, rfl, by decide, by decide⟩ (⟨_, rfl⟩) rfl rfl (fun g hB hC => ?_)
  refine hB bX7_partOf_0 _ _ _ _ _ _ _ kX7_partOf_0 ?_
  dsimp only [bX7_partOf_0, kx_wp, kx_step, kx_lI, kx_lL, kx_lA, kx_gl, kx_pI, kx_pL, kx_pR, kx_pA, kx_pV, kx_s1, kx_s2, kx_sl, kx_pre, kx_c2, kx_pl, kx_cmp, kx_oF, kx_eqN, kx_nil, kx_c1, kx_ft, kx_aI, kx_aL, kx_aR, kx_ln, Nat.reduceAdd, Option.toList, List.cons_append, List.nil_append, cf7_0, cf7_1, cf7_2, cf7_3]
  repeat (simp only [hO, s1, s2, s3, s4, nI_clamp (show (sd - 1 - k) % 200 < 2 ^ 31 by omega), ks_eq, ks_ss]; try dsimp only [kx_wp, kx_step, kx_lI, kx_lL, kx_lA, kx_gl, kx_pI, kx_pL, kx_pR, kx_pA, kx_pV, kx_s1, kx_s2, kx_sl, kx_pre, kx_c2, kx_pl, kx_cmp, kx_oF, kx_eqN, kx_nil, kx_c1, kx_ft, kx_aI, kx_aL, kx_aR, kx_ln, Nat.reduceAdd, Option.toList, List.cons_append, List.nil_append, cf7_0, cf7_1, cf7_2, cf7_3])
  repeat' apply And.intro
  all_goals try (first | with_reducible assumption | (with_reducible refine ck_nzI ?_; simp; done) | (with_reducible refine ck_nzL ?_; simp; done) | (with_reducible refine vp_in_nI ?_ ?_ <;> first | omega | decide) | (with_reducible refine Nat.le_of_ble_eq_true ?_; rfl) | omega | exact Or.inl trivial | exact Or.inr trivial | exact Or.inl rfl | exact Or.inr rfl)
  · intro zc1
    first | exact absurd rfl zc1 | exact absurd zc1 (by decide) | exact absurd (by decide) zc1 | (exfalso; first | exact absurd ((nI_ltI (a := k) (b := 0) (by omega) (by omega)).mp zc1) (by omega) | exact absurd ((nI_ltI (a := k) (b := min sd 200) (by omega) (by omega)).mpr (by omega)) zc9) | (exfalso; simp_all; done)
  · intro zc1
    with_reducible first | have ze1 := Int32.not_lt.mp zc1 | have ze1 := zc1
    refine hB bX7_partOf_4 _ _ _ _ _ _ _ kX7_partOf_4 ?_
    dsimp only [bX7_partOf_4, kx_wp, kx_step, kx_lI, kx_lL, kx_lA, kx_gl, kx_pI, kx_pL, kx_pR, kx_pA, kx_pV, kx_s1, kx_s2, kx_sl, kx_pre, kx_c2, kx_pl, kx_cmp, kx_oF, kx_eqN, kx_nil, kx_c1, kx_ft, kx_aI, kx_aL, kx_aR, kx_ln, Nat.reduceAdd, Option.toList, List.cons_append, List.nil_append, cf7_0, cf7_1, cf7_2, cf7_3]
    repeat (simp only [hO, s1, s2, s3, s4, nI_clamp (show (sd - 1 - k) % 200 < 2 ^ 31 by omega), ks_eq, ks_ss]; try dsimp only [kx_wp, kx_step, kx_lI, kx_lL, kx_lA, kx_gl, kx_pI, kx_pL, kx_pR, kx_pA, kx_pV, kx_s1, kx_s2, kx_sl, kx_pre, kx_c2, kx_pl, kx_cmp, kx_oF, kx_eqN, kx_nil, kx_c1, kx_ft, kx_aI, kx_aL, kx_aR, kx_ln, Nat.reduceAdd, Option.toList, List.cons_append, List.nil_append, cf7_0, cf7_1, cf7_2, cf7_3])
    repeat' apply And.intro
    all_goals try (first | with_reducible assumption | (with_reducible refine ck_nzI ?_; simp; done) | (with_reducible refine ck_nzL ?_; simp; done) | (with_reducible refine vp_in_nI ?_ ?_ <;> first | omega | decide) | (with_reducible refine Nat.le_of_ble_eq_true ?_; rfl) | omega | exact Or.inl trivial | exact Or.inr trivial | exact Or.inl rfl | exact Or.inr rfl)
    refine hC.1 49 _ _ _ _ _ _ _ 7 _ _ _ _ _ _ _ _ _ _ _ _ lX7_49 (ct_X7_keptNow l G hO h4 hsd) ⟨by decide, rfl⟩ (by first | assumption | (simp only [hO, s1, s2, s3, s4, nI_clamp (show (sd - 1 - k) % 200 < 2 ^ 31 by omega), ks_eq, ks_ss])) rfl rfl (Nat.le_of_ble_eq_true rfl) (by decide) (by decide) (by omega) (by omega) dX7_partOf_6 ?_
    refine hB bX7_partOf_9 _ _ _ _ _ _ _ kX7_partOf_9 ?_
    dsimp only [bX7_partOf_9, kx_wp, kx_step, kx_lI, kx_lL, kx_lA, kx_gl, kx_pI, kx_pL, kx_pR, kx_pA, kx_pV, kx_s1, kx_s2, kx_sl, kx_pre, kx_c2, kx_pl, kx_cmp, kx_oF, kx_eqN, kx_nil, kx_c1, kx_ft, kx_aI, kx_aL, kx_aR, kx_ln, Nat.reduceAdd, Option.toList, List.cons_append, List.nil_append, cf7_0, cf7_1, cf7_2, cf7_3]
    repeat (simp only [hO, s1, s2, s3, s4, nI_clamp (show (sd - 1 - k) % 200 < 2 ^ 31 by omega), ks_eq, ks_ss]; try dsimp only [kx_wp, kx_step, kx_lI, kx_lL, kx_lA, kx_gl, kx_pI, kx_pL, kx_pR, kx_pA, kx_pV, kx_s1, kx_s2, kx_sl, kx_pre, kx_c2, kx_pl, kx_cmp, kx_oF, kx_eqN, kx_nil, kx_c1, kx_ft, kx_aI, kx_aL, kx_aR, kx_ln, Nat.reduceAdd, Option.toList, List.cons_append, List.nil_append, cf7_0, cf7_1, cf7_2, cf7_3])
    repeat' apply And.intro
    all_goals try (first | with_reducible assumption | (with_reducible refine ck_nzI ?_; simp; done) | (with_reducible refine ck_nzL ?_; simp; done) | (with_reducible refine vp_in_nI ?_ ?_ <;> first | omega | decide) | (with_reducible refine Nat.le_of_ble_eq_true ?_; rfl) | omega | exact Or.inl trivial | exact Or.inr trivial | exact Or.inl rfl | exact Or.inr rfl)
    · intro zc9
      with_reducible first | have ze9 := Int32.not_le.mpr zc9 | have ze9 := zc9
      refine hB bX7_partOf_14 _ _ _ _ _ _ _ kX7_partOf_14 ?_
      dsimp only [bX7_partOf_14, kx_wp, kx_step, kx_lI, kx_lL, kx_lA, kx_gl, kx_pI, kx_pL, kx_pR, kx_pA, kx_pV, kx_s1, kx_s2, kx_sl, kx_pre, kx_c2, kx_pl, kx_cmp, kx_oF, kx_eqN, kx_nil, kx_c1, kx_ft, kx_aI, kx_aL, kx_aR, kx_ln, Nat.reduceAdd, Option.toList, List.cons_append, List.nil_append, cf7_0, cf7_1, cf7_2, cf7_3]
      repeat (simp only [hO, s1, s2, s3, s4, nI_clamp (show (sd - 1 - k) % 200 < 2 ^ 31 by omega), ks_eq, ks_ss]; try dsimp only [kx_wp, kx_step, kx_lI, kx_lL, kx_lA, kx_gl, kx_pI, kx_pL, kx_pR, kx_pA, kx_pV, kx_s1, kx_s2, kx_sl, kx_pre, kx_c2, kx_pl, kx_cmp, kx_oF, kx_eqN, kx_nil, kx_c1, kx_ft, kx_aI, kx_aL, kx_aR, kx_ln, Nat.reduceAdd, Option.toList, List.cons_append, List.nil_append, cf7_0, cf7_1, cf7_2, cf7_3])
      repeat' apply And.intro
      all_goals try (first | with_reducible assumption | (with_reducible refine ck_nzI ?_; simp; done) | (with_reducible refine ck_nzL ?_; simp; done) | (with_reducible refine vp_in_nI ?_ ?_ <;> first | omega | decide) | (with_reducible refine Nat.le_of_ble_eq_true ?_; rfl) | omega | exact Or.inl trivial | exact Or.inr trivial | exact Or.inl rfl | exact Or.inr rfl)
      refine hC.1 53 _ _ _ _ _ _ _ 7 _ _ _ _ _ _ _ _ _ _ _ _ lX7_53 (ct_X7_rowOf l G hO h4 hsd hk) ⟨by decide, rfl⟩ (by first | assumption | (simp only [hO, s1, s2, s3, s4, nI_clamp (show (sd - 1 - k) % 200 < 2 ^ 31 by omega), ks_eq, ks_ss])) rfl rfl (Nat.le_of_ble_eq_true rfl) (by decide) (by decide) (by omega) (by omega) dX7_partOf_16 ?_
      refine hB bX7_partOf_19 _ _ _ _ _ _ _ kX7_partOf_19 ?_
      dsimp only [bX7_partOf_19, kx_wp, kx_step, kx_lI, kx_lL, kx_lA, kx_gl, kx_pI, kx_pL, kx_pR, kx_pA, kx_pV, kx_s1, kx_s2, kx_sl, kx_pre, kx_c2, kx_pl, kx_cmp, kx_oF, kx_eqN, kx_nil, kx_c1, kx_ft, kx_aI, kx_aL, kx_aR, kx_ln, Nat.reduceAdd, Option.toList, List.cons_append, List.nil_append, cf7_0, cf7_1, cf7_2, cf7_3]
      repeat (simp only [hO, s1, s2, s3, s4, nI_clamp (show (sd - 1 - k) % 200 < 2 ^ 31 by omega), ks_eq, ks_ss]; try dsimp only [kx_wp, kx_step, kx_lI, kx_lL, kx_lA, kx_gl, kx_pI, kx_pL, kx_pR, kx_pA, kx_pV, kx_s1, kx_s2, kx_sl, kx_pre, kx_c2, kx_pl, kx_cmp, kx_oF, kx_eqN, kx_nil, kx_c1, kx_ft, kx_aI, kx_aL, kx_aR, kx_ln, Nat.reduceAdd, Option.toList, List.cons_append, List.nil_append, cf7_0, cf7_1, cf7_2, cf7_3])
      repeat' apply And.intro
      all_goals try (first | with_reducible assumption | (with_reducible refine ck_nzI ?_; simp; done) | (with_reducible refine ck_nzL ?_; simp; done) | (with_reducible refine vp_in_nI ?_ ?_ <;> first | omega | decide) | (with_reducible refine Nat.le_of_ble_eq_true ?_; rfl) | omega | exact Or.inl trivial | exact Or.inr trivial | exact Or.inl rfl | exact Or.inr rfl)
      · intro zc21
        have zn21_0 : ¬ w = 0 := fun h => by rw [h] at zc21; exact absurd zc21 (by decide)
        have zn21_1 : ¬ w = 1 := fun h => by rw [h] at zc21; exact absurd zc21 (by decide)
        have zn21_2 : ¬ w = 2 := fun h => by rw [h] at zc21; exact absurd zc21 (by decide)
        refine hB bX7_partOf_69 _ _ _ _ _ _ _ kX7_partOf_69 ?_
        dsimp only [bX7_partOf_69, kx_wp, kx_step, kx_lI, kx_lL, kx_lA, kx_gl, kx_pI, kx_pL, kx_pR, kx_pA, kx_pV, kx_s1, kx_s2, kx_sl, kx_pre, kx_c2, kx_pl, kx_cmp, kx_oF, kx_eqN, kx_nil, kx_c1, kx_ft, kx_aI, kx_aL, kx_aR, kx_ln, Nat.reduceAdd, Option.toList, List.cons_append, List.nil_append, cf7_0, cf7_1, cf7_2, cf7_3]
        repeat (simp only [hO, s1, s2, s3, s4, nI_clamp (show (sd - 1 - k) % 200 < 2 ^ 31 by omega), ks_eq, ks_ss]; try dsimp only [kx_wp, kx_step, kx_lI, kx_lL, kx_lA, kx_gl, kx_pI, kx_pL, kx_pR, kx_pA, kx_pV, kx_s1, kx_s2, kx_sl, kx_pre, kx_c2, kx_pl, kx_cmp, kx_oF, kx_eqN, kx_nil, kx_c1, kx_ft, kx_aI, kx_aL, kx_aR, kx_ln, Nat.reduceAdd, Option.toList, List.cons_append, List.nil_append, cf7_0, cf7_1, cf7_2, cf7_3])
        all_goals (repeat' apply And.intro)
        all_goals ((try clear hB hC); first | exact True.intro | with_reducible rfl | with_reducible assumption | (with_reducible refine vp_in_nI ?_ ?_ <;> first | omega | decide) | exact Nat.le_of_ble_eq_true rfl | (with_reducible refine ck_nzI ?_; simp; done) | (with_reducible refine ck_nzL ?_; simp; done) | (simp only [pk_us, pk_uLs, cx_pt, zc1, ze1, zc9, ze9, zn21_0, zn21_1, zn21_2, ↓reduceIte, not_true_eq_false, not_false_eq_true]; done) | (simp only [cx_pt, zc1, ze1, zc9, ze9, zn21_0, zn21_1, zn21_2, ↓reduceIte, not_true_eq_false, not_false_eq_true]; with_reducible rfl) | omega | skip)
      refine kx_sw (ws := [48, 55, 62]) rfl ?_
      dsimp only [kx_swl]
      refine ⟨fun zc21_0 => ?_, fun zc21_1 => ?_, fun zc21_2 => ?_, trivial⟩
      · have ze21_0 : w = 0 := Int32.toInt_inj.mp (zc21_0.trans (by decide))
        have zn21_1 : ¬ w = 1 := by rw [ze21_0]; decide
        have zn21_2 : ¬ w = 2 := by rw [ze21_0]; decide
        refine hB bX7_partOf_48 _ _ _ _ _ _ _ kX7_partOf_48 ?_
        dsimp only [bX7_partOf_48, kx_wp, kx_step, kx_lI, kx_lL, kx_lA, kx_gl, kx_pI, kx_pL, kx_pR, kx_pA, kx_pV, kx_s1, kx_s2, kx_sl, kx_pre, kx_c2, kx_pl, kx_cmp, kx_oF, kx_eqN, kx_nil, kx_c1, kx_ft, kx_aI, kx_aL, kx_aR, kx_ln, Nat.reduceAdd, Option.toList, List.cons_append, List.nil_append, cf7_0, cf7_1, cf7_2, cf7_3]
        repeat (simp only [hO, s1, s2, s3, s4, nI_clamp (show (sd - 1 - k) % 200 < 2 ^ 31 by omega), ks_eq, ks_ss]; try dsimp only [kx_wp, kx_step, kx_lI, kx_lL, kx_lA, kx_gl, kx_pI, kx_pL, kx_pR, kx_pA, kx_pV, kx_s1, kx_s2, kx_sl, kx_pre, kx_c2, kx_pl, kx_cmp, kx_oF, kx_eqN, kx_nil, kx_c1, kx_ft, kx_aI, kx_aL, kx_aR, kx_ln, Nat.reduceAdd, Option.toList, List.cons_append, List.nil_append, cf7_0, cf7_1, cf7_2, cf7_3])
        all_goals (repeat' apply And.intro)
        all_goals ((try clear hB hC); first | exact True.intro | with_reducible rfl | with_reducible assumption | (with_reducible refine vp_in_nI ?_ ?_ <;> first | omega | decide) | exact Nat.le_of_ble_eq_true rfl | (with_reducible refine ck_nzI ?_; simp; done) | (with_reducible refine ck_nzL ?_; simp; done) | (simp only [pk_us, pk_uLs, cx_pt, zc1, ze1, zc9, ze9, eq_true ze21_0, zn21_1, zn21_2, ↓reduceIte, not_true_eq_false, not_false_eq_true]; done) | (simp only [cx_pt, zc1, ze1, zc9, ze9, eq_true ze21_0, zn21_1, zn21_2, ↓reduceIte, not_true_eq_false, not_false_eq_true]; with_reducible rfl) | omega | skip)
      · have ze21_1 : w = 1 := Int32.toInt_inj.mp (zc21_1.trans (by decide))
        have zn21_0 : ¬ w = 0 := by rw [ze21_1]; decide
        have zn21_2 : ¬ w = 2 := by rw [ze21_1]; decide
        refine hB bX7_partOf_55 _ _ _ _ _ _ _ kX7_partOf_55 ?_
        dsimp only [bX7_partOf_55, kx_wp, kx_step, kx_lI, kx_lL, kx_lA, kx_gl, kx_pI, kx_pL, kx_pR, kx_pA, kx_pV, kx_s1, kx_s2, kx_sl, kx_pre, kx_c2, kx_pl, kx_cmp, kx_oF, kx_eqN, kx_nil, kx_c1, kx_ft, kx_aI, kx_aL, kx_aR, kx_ln, Nat.reduceAdd, Option.toList, List.cons_append, List.nil_append, cf7_0, cf7_1, cf7_2, cf7_3]
        repeat (simp only [hO, s1, s2, s3, s4, nI_clamp (show (sd - 1 - k) % 200 < 2 ^ 31 by omega), ks_eq, ks_ss]; try dsimp only [kx_wp, kx_step, kx_lI, kx_lL, kx_lA, kx_gl, kx_pI, kx_pL, kx_pR, kx_pA, kx_pV, kx_s1, kx_s2, kx_sl, kx_pre, kx_c2, kx_pl, kx_cmp, kx_oF, kx_eqN, kx_nil, kx_c1, kx_ft, kx_aI, kx_aL, kx_aR, kx_ln, Nat.reduceAdd, Option.toList, List.cons_append, List.nil_append, cf7_0, cf7_1, cf7_2, cf7_3])
        all_goals (repeat' apply And.intro)
        all_goals ((try clear hB hC); first | exact True.intro | with_reducible rfl | with_reducible assumption | (with_reducible refine vp_in_nI ?_ ?_ <;> first | omega | decide) | exact Nat.le_of_ble_eq_true rfl | (with_reducible refine ck_nzI ?_; simp; done) | (with_reducible refine ck_nzL ?_; simp; done) | (simp only [pk_us, pk_uLs, cx_pt, zc1, ze1, zc9, ze9, eq_true ze21_1, zn21_0, zn21_2, ↓reduceIte, not_true_eq_false, not_false_eq_true]; done) | (simp only [cx_pt, zc1, ze1, zc9, ze9, eq_true ze21_1, zn21_0, zn21_2, ↓reduceIte, not_true_eq_false, not_false_eq_true]; with_reducible rfl) | omega | skip)
      · have ze21_2 : w = 2 := Int32.toInt_inj.mp (zc21_2.trans (by decide))
        have zn21_0 : ¬ w = 0 := by rw [ze21_2]; decide
        have zn21_1 : ¬ w = 1 := by rw [ze21_2]; decide
        refine hB bX7_partOf_62 _ _ _ _ _ _ _ kX7_partOf_62 ?_
        dsimp only [bX7_partOf_62, kx_wp, kx_step, kx_lI, kx_lL, kx_lA, kx_gl, kx_pI, kx_pL, kx_pR, kx_pA, kx_pV, kx_s1, kx_s2, kx_sl, kx_pre, kx_c2, kx_pl, kx_cmp, kx_oF, kx_eqN, kx_nil, kx_c1, kx_ft, kx_aI, kx_aL, kx_aR, kx_ln, Nat.reduceAdd, Option.toList, List.cons_append, List.nil_append, cf7_0, cf7_1, cf7_2, cf7_3]
        repeat (simp only [hO, s1, s2, s3, s4, nI_clamp (show (sd - 1 - k) % 200 < 2 ^ 31 by omega), ks_eq, ks_ss]; try dsimp only [kx_wp, kx_step, kx_lI, kx_lL, kx_lA, kx_gl, kx_pI, kx_pL, kx_pR, kx_pA, kx_pV, kx_s1, kx_s2, kx_sl, kx_pre, kx_c2, kx_pl, kx_cmp, kx_oF, kx_eqN, kx_nil, kx_c1, kx_ft, kx_aI, kx_aL, kx_aR, kx_ln, Nat.reduceAdd, Option.toList, List.cons_append, List.nil_append, cf7_0, cf7_1, cf7_2, cf7_3])
        all_goals (repeat' apply And.intro)
        all_goals ((try clear hB hC); first | exact True.intro | with_reducible rfl | with_reducible assumption | (with_reducible refine vp_in_nI ?_ ?_ <;> first | omega | decide) | exact Nat.le_of_ble_eq_true rfl | (with_reducible refine ck_nzI ?_; simp; done) | (with_reducible refine ck_nzL ?_; simp; done) | (simp only [pk_us, pk_uLs, cx_pt, zc1, ze1, zc9, ze9, eq_true ze21_2, zn21_0, zn21_1, ↓reduceIte, not_true_eq_false, not_false_eq_true]; done) | (simp only [cx_pt, zc1, ze1, zc9, ze9, eq_true ze21_2, zn21_0, zn21_1, ↓reduceIte, not_true_eq_false, not_false_eq_true]; with_reducible rfl) | omega | skip)
    · intro zc9
      first | exact absurd rfl zc9 | exact absurd zc9 (by decide) | exact absurd (by decide) zc9 | (exfalso; first | exact absurd ((nI_ltI (a := k) (b := 0) (by omega) (by omega)).mp zc1) (by omega) | exact absurd ((nI_ltI (a := k) (b := min sd 200) (by omega) (by omega)).mpr (by omega)) zc9) | (exfalso; simp_all; done)


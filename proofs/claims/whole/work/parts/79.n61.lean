def bX3_add_0 : List kx_O := [(.aload_n 0, 0, 0, 0, .null), (.getfield 21, 3, 3, 0, .null), (.bipush 40, 0, 0, 0, .int 40), (.if_icmp .lt 5, 11, 0, 0, .null)]
theorem kX3_add_0 : kx_oks kxL_X3 false cX3_add 0 bX3_add_0 = true := by decide +kernel
def bX3_add_9 : List kx_O := [(.iconst (-1), 0, 0, 0, .int (-1)), (.ireturn, 0, 0, 0, .null)]
theorem kX3_add_9 : kx_oks kxL_X3 false cX3_add 9 bX3_add_9 = true := by decide +kernel
def bX3_add_11 : List kx_O := [(.aload_n 0, 0, 0, 0, .null), (.getfield 11, 3, 0, 0, .null), (.aload_n 0, 0, 0, 0, .null), (.getfield 21, 3, 3, 0, .null), (.iload_n 1, 1, 0, 0, .null), (.iastore, 0, 0, 0, .null), (.aload_n 0, 0, 0, 0, .null), (.getfield 15, 3, 1, 0, .null), (.aload_n 0, 0, 0, 0, .null), (.getfield 21, 3, 3, 0, .null), (.iload_n 2, 2, 0, 0, .null), (.iastore, 0, 0, 0, .null), (.aload_n 0, 0, 0, 0, .null), (.getfield 18, 3, 2, 0, .null), (.aload_n 0, 0, 0, 0, .null), (.getfield 21, 3, 3, 0, .null), (.iload_n 3, 3, 0, 0, .null), (.iastore, 0, 0, 0, .null), (.aload_n 0, 0, 0, 0, .null), (.dup, 0, 0, 0, .null), (.getfield 21, 3, 3, 0, .null), (.iconst 1, 0, 0, 0, .int 1), (.iadd, 0, 0, 0, .null), (.putfield 21, 3, 3, 0, .null), (.aload_n 0, 0, 0, 0, .null), (.getfield 21, 3, 3, 0, .null), (.ireturn, 0, 0, 0, .null)]
theorem kX3_add_11 : kx_oks kxL_X3 false cX3_add 11 bX3_add_11 = true := by decide +kernel
set_option maxRecDepth 100000 in
set_option maxHeartbeats 4000000 in
theorem ct_X3_add_n (l : Launch) (G : kx_G) {P : kx_P} {sz : Nat} {F a b t : Nat → Int32} (hO : P 89 = kO 3 (kf cr3 F)) (ha : P 90 = kI 0 40 a) (hb : P 91 = kI 0 40 b) (ht : P 92 = kI 0 40 t) {c f w : Int32} (h3 : F 3 = 40)  : kx_M l G sX3_add 1 0 0 [.ref 89, .int (c), .int (f), .int (w)] P sz (some (.int (-1))) P sz := by
  refine kx_mk kx_tab kxLok_X3 (ini := false) [some (.ref 89), some (.int (c)), some (.int (f)), some (.int (w))] ⟨by decide, rfl, by decide, by decide⟩ (⟨_, rfl⟩) rfl rfl (fun g hB hC => ?_)
  refine hB bX3_add_0 _ _ _ _ _ _ _ kX3_add_0 ?_
  dsimp only [bX3_add_0, kx_wp, kx_step, kx_lI, kx_lL, kx_lA, kx_gl, kx_pI, kx_pL, kx_pR, kx_pA, kx_pV, kx_s1, kx_s2, kx_sl, kx_pre, kx_c2, kx_pl, kx_cmp, kx_oF, kx_eqN, kx_nil, kx_c1, kx_ft, kx_aI, kx_aL, kx_aR, kx_ln, Nat.reduceAdd, Option.toList, List.cons_append, List.nil_append, cf3_3, cf3_0, cf3_1, cf3_2]
  repeat (simp only [hO, h3, cp3_3, ks_eq, ks_ss]; try dsimp only [kx_wp, kx_step, kx_lI, kx_lL, kx_lA, kx_gl, kx_pI, kx_pL, kx_pR, kx_pA, kx_pV, kx_s1, kx_s2, kx_sl, kx_pre, kx_c2, kx_pl, kx_cmp, kx_oF, kx_eqN, kx_nil, kx_c1, kx_ft, kx_aI, kx_aL, kx_aR, kx_ln, Nat.reduceAdd, Option.toList, List.cons_append, List.nil_append, cf3_3, cf3_0, cf3_1, cf3_2])
  repeat' apply And.intro
  all_goals try (first | with_reducible assumption | (with_reducible refine ck_nzI ?_; simp; done) | (with_reducible refine ck_nzL ?_; simp; done) | (with_reducible refine vp_in_nI ?_ ?_ <;> first | omega | decide) | (with_reducible refine Nat.le_of_ble_eq_true ?_; rfl) | omega)
  · intro zc6
    first | exact absurd rfl zc6 | exact absurd zc6 (by decide) | exact absurd (by decide) zc6 | (exfalso; first | exact absurd ((nI_ltI (a := 40) (b := 40) (by omega) (by omega)).mp zc6) (by omega)) | (exfalso; simp_all; done)
  · intro zc6
    with_reducible first | have ze6 := Int32.not_lt.mp zc6 | have ze6 := zc6
    refine hB bX3_add_9 _ _ _ _ _ _ _ kX3_add_9 ?_
    dsimp only [bX3_add_9, kx_wp, kx_step, kx_lI, kx_lL, kx_lA, kx_gl, kx_pI, kx_pL, kx_pR, kx_pA, kx_pV, kx_s1, kx_s2, kx_sl, kx_pre, kx_c2, kx_pl, kx_cmp, kx_oF, kx_eqN, kx_nil, kx_c1, kx_ft, kx_aI, kx_aL, kx_aR, kx_ln, Nat.reduceAdd, Option.toList, List.cons_append, List.nil_append, cf3_3, cf3_0, cf3_1, cf3_2]
    repeat (simp only [hO, h3, cp3_3, ks_eq, ks_ss]; try dsimp only [kx_wp, kx_step, kx_lI, kx_lL, kx_lA, kx_gl, kx_pI, kx_pL, kx_pR, kx_pA, kx_pV, kx_s1, kx_s2, kx_sl, kx_pre, kx_c2, kx_pl, kx_cmp, kx_oF, kx_eqN, kx_nil, kx_c1, kx_ft, kx_aI, kx_aL, kx_aR, kx_ln, Nat.reduceAdd, Option.toList, List.cons_append, List.nil_append, cf3_3, cf3_0, cf3_1, cf3_2])
    all_goals (repeat' apply And.intro)
    all_goals ((try clear hB hC); first | exact True.intro | with_reducible rfl | with_reducible assumption | (with_reducible refine vp_in_nI ?_ ?_ <;> first | omega | decide) | exact Nat.le_of_ble_eq_true rfl | (with_reducible refine ck_nzI ?_; simp; done) | (with_reducible refine ck_nzL ?_; simp; done) | (simp only [pk_us, pk_uLs, zc6, ze6, ↓reduceIte, not_true_eq_false, not_false_eq_true]; done) | (simp only [zc6, ze6, ↓reduceIte, not_true_eq_false, not_false_eq_true]; with_reducible rfl) | skip)

set_option maxRecDepth 100000 in
set_option maxHeartbeats 4000000 in
theorem ct_X3_add_t (l : Launch) (G : kx_G) {P : kx_P} {sz : Nat} {F a b t : Nat → Int32} (hO : P 89 = kO 3 (kf cr3 F)) (ha : P 90 = kI 0 40 a) (hb : P 91 = kI 0 40 b) (ht : P 92 = kI 0 40 t) {c f w : Int32} {n : Nat} (h3 : F 3 = nI n) (hn : n < 40)  : kx_M l G sX3_add 1 0 0 [.ref 89, .int (c), .int (f), .int (w)] P sz (some (.int (nI (n + 1)))) (kx_set (kx_set (kx_set (kx_set P 90 (kI 0 40 (upd a n c))) 91 (kI 0 40 (upd b n f))) 92 (kI 0 40 (upd t n w))) 89 (kO 3 (kf cr3 (upd F 3 (nI (n + 1)))))) sz := by
  refine kx_mk kx_tab kxLok_X3 (ini := false) [some (.ref 89), some (.int (c)), some (.int (f)), some (.int (w))] ⟨by decide, rfl, by decide, by decide⟩ (⟨_, rfl⟩) rfl rfl (fun g hB hC => ?_)
  refine hB bX3_add_0 _ _ _ _ _ _ _ kX3_add_0 ?_
  dsimp only [bX3_add_0, kx_wp, kx_step, kx_lI, kx_lL, kx_lA, kx_gl, kx_pI, kx_pL, kx_pR, kx_pA, kx_pV, kx_s1, kx_s2, kx_sl, kx_pre, kx_c2, kx_pl, kx_cmp, kx_oF, kx_eqN, kx_nil, kx_c1, kx_ft, kx_aI, kx_aL, kx_aR, kx_ln, Nat.reduceAdd, Option.toList, List.cons_append, List.nil_append, cf3_3, cf3_0, cf3_1, cf3_2]
  repeat (simp only [hO, ha, hb, ht, h3, nI_1, pk_us, nI_clamp (show n < 2 ^ 31 by omega), ks_ne (show ¬ (89 : Nat) = 90 by decide), ks_ne (show ¬ (89 : Nat) = 91 by decide), ks_ne (show ¬ (89 : Nat) = 92 by decide), ks_ne (show ¬ (90 : Nat) = 89 by decide), ks_ne (show ¬ (90 : Nat) = 91 by decide), ks_ne (show ¬ (90 : Nat) = 92 by decide), ks_ne (show ¬ (91 : Nat) = 89 by decide), ks_ne (show ¬ (91 : Nat) = 90 by decide), ks_ne (show ¬ (91 : Nat) = 92 by decide), ks_ne (show ¬ (92 : Nat) = 89 by decide), ks_ne (show ¬ (92 : Nat) = 90 by decide), ks_ne (show ¬ (92 : Nat) = 91 by decide), cp3_3, ks_eq, ks_ss]; try dsimp only [kx_wp, kx_step, kx_lI, kx_lL, kx_lA, kx_gl, kx_pI, kx_pL, kx_pR, kx_pA, kx_pV, kx_s1, kx_s2, kx_sl, kx_pre, kx_c2, kx_pl, kx_cmp, kx_oF, kx_eqN, kx_nil, kx_c1, kx_ft, kx_aI, kx_aL, kx_aR, kx_ln, Nat.reduceAdd, Option.toList, List.cons_append, List.nil_append, cf3_3, cf3_0, cf3_1, cf3_2])
  repeat' apply And.intro
  all_goals try (first | with_reducible assumption | (with_reducible refine ck_nzI ?_; simp; done) | (with_reducible refine ck_nzL ?_; simp; done) | (with_reducible refine vp_in_nI ?_ ?_ <;> first | omega | decide) | (with_reducible refine Nat.le_of_ble_eq_true ?_; rfl) | omega)
  · intro zc6
    with_reducible first | have ze6 := Int32.not_le.mpr zc6 | have ze6 := zc6
    refine hB bX3_add_11 _ _ _ _ _ _ _ kX3_add_11 ?_
    dsimp only [bX3_add_11, kx_wp, kx_step, kx_lI, kx_lL, kx_lA, kx_gl, kx_pI, kx_pL, kx_pR, kx_pA, kx_pV, kx_s1, kx_s2, kx_sl, kx_pre, kx_c2, kx_pl, kx_cmp, kx_oF, kx_eqN, kx_nil, kx_c1, kx_ft, kx_aI, kx_aL, kx_aR, kx_ln, Nat.reduceAdd, Option.toList, List.cons_append, List.nil_append, cf3_3, cf3_0, cf3_1, cf3_2]
    repeat (simp only [hO, ha, hb, ht, h3, nI_1, pk_us, nI_clamp (show n < 2 ^ 31 by omega), ks_ne (show ¬ (89 : Nat) = 90 by decide), ks_ne (show ¬ (89 : Nat) = 91 by decide), ks_ne (show ¬ (89 : Nat) = 92 by decide), ks_ne (show ¬ (90 : Nat) = 89 by decide), ks_ne (show ¬ (90 : Nat) = 91 by decide), ks_ne (show ¬ (90 : Nat) = 92 by decide), ks_ne (show ¬ (91 : Nat) = 89 by decide), ks_ne (show ¬ (91 : Nat) = 90 by decide), ks_ne (show ¬ (91 : Nat) = 92 by decide), ks_ne (show ¬ (92 : Nat) = 89 by decide), ks_ne (show ¬ (92 : Nat) = 90 by decide), ks_ne (show ¬ (92 : Nat) = 91 by decide), cp3_3, ks_eq, ks_ss]; try dsimp only [kx_wp, kx_step, kx_lI, kx_lL, kx_lA, kx_gl, kx_pI, kx_pL, kx_pR, kx_pA, kx_pV, kx_s1, kx_s2, kx_sl, kx_pre, kx_c2, kx_pl, kx_cmp, kx_oF, kx_eqN, kx_nil, kx_c1, kx_ft, kx_aI, kx_aL, kx_aR, kx_ln, Nat.reduceAdd, Option.toList, List.cons_append, List.nil_append, cf3_3, cf3_0, cf3_1, cf3_2])
    all_goals (repeat' apply And.intro)
    all_goals ((try clear hB hC); first | exact True.intro | with_reducible rfl | with_reducible assumption | (with_reducible refine vp_in_nI ?_ ?_ <;> first | omega | decide) | exact Nat.le_of_ble_eq_true rfl | (with_reducible refine ck_nzI ?_; simp; done) | (with_reducible refine ck_nzL ?_; simp; done) | (simp only [pk_us, pk_uLs, zc6, ze6, ↓reduceIte, not_true_eq_false, not_false_eq_true]; done) | (simp only [zc6, ze6, ↓reduceIte, not_true_eq_false, not_false_eq_true]; with_reducible rfl) | skip)
  · intro zc6
    first | exact absurd rfl zc6 | exact absurd zc6 (by decide) | exact absurd (by decide) zc6 | (exfalso; first | exact absurd ((nI_ltI (a := n) (b := 40) (by omega) (by omega)).mpr (by omega)) zc6) | (exfalso; simp_all; done)

def cx_lw (a b t : Nat → Int32) (mi kn : Int32) : Nat → Int32 × Int32
  | 0 => (-1, 0)
  | k + 1 => if t k ≤ kn then (if b k ≤ mi then (if (cx_lw a b t mi kn k).2 ≤ b k then (a k, b k) else cx_lw a b t mi kn k) else cx_lw a b t mi kn k) else cx_lw a b t mi kn k
def bX3_clockAt_0 : List kx_O := [(.iconst (-1), 0, 0, 0, .int (-1)), (.istore_n 3, 3, 0, 0, .null), (.iconst 0, 0, 0, 0, .int 0), (.istore 4, 4, 0, 0, .null), (.iconst 0, 0, 0, 0, .int 0), (.istore 5, 5, 0, 0, .null)]
theorem kX3_clockAt_0 : kx_oks kxL_X3 false cX3_clockAt 0 bX3_clockAt_0 = true := by decide +kernel
def bX3_clockAt_8 : List kx_O := [(.iload 5, 5, 0, 0, .null), (.aload_n 0, 0, 0, 0, .null), (.getfield 21, 3, 3, 0, .null), (.if_icmp .ge 67, 81, 0, 0, .null)]
theorem kX3_clockAt_8 : kx_oks kxL_X3 false cX3_clockAt 8 bX3_clockAt_8 = true := by decide +kernel
def bX3_clockAt_17 : List kx_O := [(.iload 5, 5, 0, 0, .null), (.bipush 40, 0, 0, 0, .int 40), (.if_icmp .ge 60, 81, 0, 0, .null)]
theorem kX3_clockAt_17 : kx_oks kxL_X3 false cX3_clockAt 17 bX3_clockAt_17 = true := by decide +kernel
def bX3_clockAt_24 : List kx_O := [(.aload_n 0, 0, 0, 0, .null), (.getfield 18, 3, 2, 0, .null), (.iload 5, 5, 0, 0, .null), (.iaload, 0, 0, 0, .null), (.iload_n 2, 2, 0, 0, .null), (.if_icmp .gt 43, 75, 0, 0, .null)]
theorem kX3_clockAt_24 : kx_oks kxL_X3 false cX3_clockAt 24 bX3_clockAt_24 = true := by decide +kernel
def bX3_clockAt_35 : List kx_O := [(.aload_n 0, 0, 0, 0, .null), (.getfield 15, 3, 1, 0, .null), (.iload 5, 5, 0, 0, .null), (.iaload, 0, 0, 0, .null), (.iload_n 1, 1, 0, 0, .null), (.if_icmp .gt 32, 75, 0, 0, .null)]
theorem kX3_clockAt_35 : kx_oks kxL_X3 false cX3_clockAt 35 bX3_clockAt_35 = true := by decide +kernel
def bX3_clockAt_46 : List kx_O := [(.aload_n 0, 0, 0, 0, .null), (.getfield 15, 3, 1, 0, .null), (.iload 5, 5, 0, 0, .null), (.iaload, 0, 0, 0, .null), (.iload 4, 4, 0, 0, .null), (.if_icmp .lt 20, 75, 0, 0, .null)]
theorem kX3_clockAt_46 : kx_oks kxL_X3 false cX3_clockAt 46 bX3_clockAt_46 = true := by decide +kernel
def bX3_clockAt_58 : List kx_O := [(.aload_n 0, 0, 0, 0, .null), (.getfield 15, 3, 1, 0, .null), (.iload 5, 5, 0, 0, .null), (.iaload, 0, 0, 0, .null), (.istore 4, 4, 0, 0, .null), (.aload_n 0, 0, 0, 0, .null), (.getfield 11, 3, 0, 0, .null), (.iload 5, 5, 0, 0, .null), (.iaload, 0, 0, 0, .null), (.istore_n 3, 3, 0, 0, .null)]
theorem kX3_clockAt_58 : kx_oks kxL_X3 false cX3_clockAt 58 bX3_clockAt_58 = true := by decide +kernel
def bX3_clockAt_75 : List kx_O := [(.iinc 5 1, 5, 0, 0, .int 1), (.goto (-70), 8, 0, 0, .null)]
theorem kX3_clockAt_75 : kx_oks kxL_X3 false cX3_clockAt 75 bX3_clockAt_75 = true := by decide +kernel
def bX3_clockAt_81 : List kx_O := [(.iload_n 3, 3, 0, 0, .null), (.ireturn, 0, 0, 0, .null)]
theorem kX3_clockAt_81 : kx_oks kxL_X3 false cX3_clockAt 81 bX3_clockAt_81 = true := by decide +kernel
set_option maxRecDepth 100000 in
set_option maxHeartbeats 4000000 in
theorem ct_X3_clockAt (l : Launch) (G : kx_G) {P : kx_P} {sz : Nat} {F a b t : Nat → Int32} (hO : P 89 = kO 3 (kf cr3 F)) (ha : P 90 = kI 0 40 a) (hb : P 91 = kI 0 40 b) (ht : P 92 = kI 0 40 t) {mi kn : Int32} {n : Nat} (h3 : F 3 = nI n) (hn : n ≤ 40)  : kx_M l G sX3_clockAt 1 0 0 [.ref 89, .int (mi), .int (kn)] P sz (some (.int ((cx_lw a b t mi kn n).1))) P sz := by
  refine kx_mk kx_tab kxLok_X3 (ini := false) [some (.ref 89), some (.int (mi)), some (.int (kn)), none, none, none] ⟨by decide, rfl, by decide, by decide⟩ (⟨_, rfl⟩) rfl rfl (fun g hB hC => ?_)
  have loop8 : ∀ (n9 : Nat) (k : Nat), k + n9 = n → g 8 [some (.ref 89), some (.int mi), some (.int kn), some (.int (cx_lw a b t mi kn k).1), some (.int (cx_lw a b t mi kn k).2), some (.int (nI k))] [] P sz 0 0 := by
    intro n9
    induction n9 with
    | zero =>
      intro k hk
      obtain rfl : k = n := by omega
      refine hB bX3_clockAt_8 _ _ _ _ _ _ _ kX3_clockAt_8 ?_
      dsimp only [bX3_clockAt_8, kx_wp, kx_step, kx_lI, kx_lL, kx_lA, kx_gl, kx_pI, kx_pL, kx_pR, kx_pA, kx_pV, kx_s1, kx_s2, kx_sl, kx_pre, kx_c2, kx_pl, kx_cmp, kx_oF, kx_eqN, kx_nil, kx_c1, kx_ft, kx_aI, kx_aL, kx_aR, kx_ln, Nat.reduceAdd, Option.toList, List.cons_append, List.nil_append, cf3_3, cf3_2, cf3_1, cf3_0]
      repeat (simp only [hO, ha, hb, ht, h3, nI_1, ks_eq, ks_ss, nI_clamp (show k < 2 ^ 31 by omega)]; try dsimp only [kx_wp, kx_step, kx_lI, kx_lL, kx_lA, kx_gl, kx_pI, kx_pL, kx_pR, kx_pA, kx_pV, kx_s1, kx_s2, kx_sl, kx_pre, kx_c2, kx_pl, kx_cmp, kx_oF, kx_eqN, kx_nil, kx_c1, kx_ft, kx_aI, kx_aL, kx_aR, kx_ln, Nat.reduceAdd, Option.toList, List.cons_append, List.nil_append, cf3_3, cf3_2, cf3_1, cf3_0])
      repeat' apply And.intro
      all_goals try (first | with_reducible assumption | (with_reducible refine ck_nzI ?_; simp; done) | (with_reducible refine ck_nzL ?_; simp; done) | (with_reducible refine vp_in_nI ?_ ?_ <;> first | omega | decide) | (with_reducible refine Nat.le_of_ble_eq_true ?_; rfl) | omega)
      · intro zc14
        with_reducible first | have ze14 := Int32.not_lt.mpr zc14 | have ze14 := zc14
        refine hB bX3_clockAt_81 _ _ _ _ _ _ _ kX3_clockAt_81 ?_
        dsimp only [bX3_clockAt_81, kx_wp, kx_step, kx_lI, kx_lL, kx_lA, kx_gl, kx_pI, kx_pL, kx_pR, kx_pA, kx_pV, kx_s1, kx_s2, kx_sl, kx_pre, kx_c2, kx_pl, kx_cmp, kx_oF, kx_eqN, kx_nil, kx_c1, kx_ft, kx_aI, kx_aL, kx_aR, kx_ln, Nat.reduceAdd, Option.toList, List.cons_append, List.nil_append, cf3_3, cf3_2, cf3_1, cf3_0]
        repeat (simp only [hO, ha, hb, ht, h3, nI_1, ks_eq, ks_ss, nI_clamp (show k < 2 ^ 31 by omega)]; try dsimp only [kx_wp, kx_step, kx_lI, kx_lL, kx_lA, kx_gl, kx_pI, kx_pL, kx_pR, kx_pA, kx_pV, kx_s1, kx_s2, kx_sl, kx_pre, kx_c2, kx_pl, kx_cmp, kx_oF, kx_eqN, kx_nil, kx_c1, kx_ft, kx_aI, kx_aL, kx_aR, kx_ln, Nat.reduceAdd, Option.toList, List.cons_append, List.nil_append, cf3_3, cf3_2, cf3_1, cf3_0])
        all_goals (repeat' apply And.intro)
        all_goals ((try clear hB hC); first | exact True.intro | with_reducible rfl | with_reducible assumption | (with_reducible refine vp_in_nI ?_ ?_ <;> first | omega | decide) | exact Nat.le_of_ble_eq_true rfl | (with_reducible refine ck_nzI ?_; simp; done) | (with_reducible refine ck_nzL ?_; simp; done) | (simp only [pk_us, pk_uLs, zc14, ze14, ↓reduceIte, not_true_eq_false, not_false_eq_true]; done) | (simp only [zc14, ze14, ↓reduceIte, not_true_eq_false, not_false_eq_true]; with_reducible rfl) | skip)
      · intro zc14
        first | exact absurd rfl zc14 | exact absurd zc14 (by decide) | exact absurd (by decide) zc14 | (exfalso; first | exact absurd ((nI_leI (a := n) (b := k) (by omega) (by omega)).mp zc14) (by omega) | exact absurd ((nI_leI (a := k) (b := k) (by omega) (by omega)).mpr (by omega)) zc14 | exact absurd ((nI_leI (a := 40) (b := k) (by omega) (by omega)).mp zc21) (by omega)) | (exfalso; simp_all; done)
    | succ n9 ih =>
      intro k hk
      refine hB bX3_clockAt_8 _ _ _ _ _ _ _ kX3_clockAt_8 ?_
      dsimp only [bX3_clockAt_8, kx_wp, kx_step, kx_lI, kx_lL, kx_lA, kx_gl, kx_pI, kx_pL, kx_pR, kx_pA, kx_pV, kx_s1, kx_s2, kx_sl, kx_pre, kx_c2, kx_pl, kx_cmp, kx_oF, kx_eqN, kx_nil, kx_c1, kx_ft, kx_aI, kx_aL, kx_aR, kx_ln, Nat.reduceAdd, Option.toList, List.cons_append, List.nil_append, cf3_3, cf3_2, cf3_1, cf3_0]
      repeat (simp only [hO, ha, hb, ht, h3, nI_1, ks_eq, ks_ss, nI_clamp (show k < 2 ^ 31 by omega)]; try dsimp only [kx_wp, kx_step, kx_lI, kx_lL, kx_lA, kx_gl, kx_pI, kx_pL, kx_pR, kx_pA, kx_pV, kx_s1, kx_s2, kx_sl, kx_pre, kx_c2, kx_pl, kx_cmp, kx_oF, kx_eqN, kx_nil, kx_c1, kx_ft, kx_aI, kx_aL, kx_aR, kx_ln, Nat.reduceAdd, Option.toList, List.cons_append, List.nil_append, cf3_3, cf3_2, cf3_1, cf3_0])
      repeat' apply And.intro
      all_goals try (first | with_reducible assumption | (with_reducible refine ck_nzI ?_; simp; done) | (with_reducible refine ck_nzL ?_; simp; done) | (with_reducible refine vp_in_nI ?_ ?_ <;> first | omega | decide) | (with_reducible refine Nat.le_of_ble_eq_true ?_; rfl) | omega)
      · intro zc14
        first | exact absurd rfl zc14 | exact absurd zc14 (by decide) | exact absurd (by decide) zc14 | (exfalso; first | exact absurd ((nI_leI (a := n) (b := k) (by omega) (by omega)).mp zc14) (by omega) | exact absurd ((nI_leI (a := k) (b := k) (by omega) (by omega)).mpr (by omega)) zc14 | exact absurd ((nI_leI (a := 40) (b := k) (by omega) (by omega)).mp zc21) (by omega)) | (exfalso; simp_all; done)
      · intro zc14
        with_reducible first | have ze14 := Int32.not_le.mp zc14 | have ze14 := zc14
        refine hB bX3_clockAt_17 _ _ _ _ _ _ _ kX3_clockAt_17 ?_
        dsimp only [bX3_clockAt_17, kx_wp, kx_step, kx_lI, kx_lL, kx_lA, kx_gl, kx_pI, kx_pL, kx_pR, kx_pA, kx_pV, kx_s1, kx_s2, kx_sl, kx_pre, kx_c2, kx_pl, kx_cmp, kx_oF, kx_eqN, kx_nil, kx_c1, kx_ft, kx_aI, kx_aL, kx_aR, kx_ln, Nat.reduceAdd, Option.toList, List.cons_append, List.nil_append, cf3_3, cf3_2, cf3_1, cf3_0]
        repeat (simp only [hO, ha, hb, ht, h3, nI_1, ks_eq, ks_ss, nI_clamp (show k < 2 ^ 31 by omega)]; try dsimp only [kx_wp, kx_step, kx_lI, kx_lL, kx_lA, kx_gl, kx_pI, kx_pL, kx_pR, kx_pA, kx_pV, kx_s1, kx_s2, kx_sl, kx_pre, kx_c2, kx_pl, kx_cmp, kx_oF, kx_eqN, kx_nil, kx_c1, kx_ft, kx_aI, kx_aL, kx_aR, kx_ln, Nat.reduceAdd, Option.toList, List.cons_append, List.nil_append, cf3_3, cf3_2, cf3_1, cf3_0])
        repeat' apply And.intro
        all_goals try (first | with_reducible assumption | (with_reducible refine ck_nzI ?_; simp; done) | (with_reducible refine ck_nzL ?_; simp; done) | (with_reducible refine vp_in_nI ?_ ?_ <;> first | omega | decide) | (with_reducible refine Nat.le_of_ble_eq_true ?_; rfl) | omega)
        · intro zc21
          first | exact absurd rfl zc21 | exact absurd zc21 (by decide) | exact absurd (by decide) zc21 | (exfalso; first | exact absurd ((nI_leI (a := n) (b := k) (by omega) (by omega)).mp zc14) (by omega) | exact absurd ((nI_leI (a := k) (b := k) (by omega) (by omega)).mpr (by omega)) zc14 | exact absurd ((nI_leI (a := 40) (b := k) (by omega) (by omega)).mp zc21) (by omega)) | (exfalso; simp_all; done)
        · intro zc21
          with_reducible first | have ze21 := Int32.not_le.mp zc21 | have ze21 := zc21
          refine hB bX3_clockAt_24 _ _ _ _ _ _ _ kX3_clockAt_24 ?_
          dsimp only [bX3_clockAt_24, kx_wp, kx_step, kx_lI, kx_lL, kx_lA, kx_gl, kx_pI, kx_pL, kx_pR, kx_pA, kx_pV, kx_s1, kx_s2, kx_sl, kx_pre, kx_c2, kx_pl, kx_cmp, kx_oF, kx_eqN, kx_nil, kx_c1, kx_ft, kx_aI, kx_aL, kx_aR, kx_ln, Nat.reduceAdd, Option.toList, List.cons_append, List.nil_append, cf3_3, cf3_2, cf3_1, cf3_0]
          repeat (simp only [hO, ha, hb, ht, h3, nI_1, ks_eq, ks_ss, nI_clamp (show k < 2 ^ 31 by omega)]; try dsimp only [kx_wp, kx_step, kx_lI, kx_lL, kx_lA, kx_gl, kx_pI, kx_pL, kx_pR, kx_pA, kx_pV, kx_s1, kx_s2, kx_sl, kx_pre, kx_c2, kx_pl, kx_cmp, kx_oF, kx_eqN, kx_nil, kx_c1, kx_ft, kx_aI, kx_aL, kx_aR, kx_ln, Nat.reduceAdd, Option.toList, List.cons_append, List.nil_append, cf3_3, cf3_2, cf3_1, cf3_0])
          repeat' apply And.intro
          all_goals try (first | with_reducible assumption | (with_reducible refine ck_nzI ?_; simp; done) | (with_reducible refine ck_nzL ?_; simp; done) | (with_reducible refine vp_in_nI ?_ ?_ <;> first | omega | decide) | (with_reducible refine Nat.le_of_ble_eq_true ?_; rfl) | omega)
          · intro zc32
            with_reducible first | have ze32 := Int32.not_le.mpr zc32 | have ze32 := zc32
            refine hB bX3_clockAt_75 _ _ _ _ _ _ _ kX3_clockAt_75 ?_
            dsimp only [bX3_clockAt_75, kx_wp, kx_step, kx_lI, kx_lL, kx_lA, kx_gl, kx_pI, kx_pL, kx_pR, kx_pA, kx_pV, kx_s1, kx_s2, kx_sl, kx_pre, kx_c2, kx_pl, kx_cmp, kx_oF, kx_eqN, kx_nil, kx_c1, kx_ft, kx_aI, kx_aL, kx_aR, kx_ln, Nat.reduceAdd, Option.toList, List.cons_append, List.nil_append, cf3_3, cf3_2, cf3_1, cf3_0]
            repeat (simp only [hO, ha, hb, ht, h3, nI_1, ks_eq, ks_ss, nI_clamp (show k < 2 ^ 31 by omega)]; try dsimp only [kx_wp, kx_step, kx_lI, kx_lL, kx_lA, kx_gl, kx_pI, kx_pL, kx_pR, kx_pA, kx_pV, kx_s1, kx_s2, kx_sl, kx_pre, kx_c2, kx_pl, kx_cmp, kx_oF, kx_eqN, kx_nil, kx_c1, kx_ft, kx_aI, kx_aL, kx_aR, kx_ln, Nat.reduceAdd, Option.toList, List.cons_append, List.nil_append, cf3_3, cf3_2, cf3_1, cf3_0])
            repeat' apply And.intro
            all_goals try (first | with_reducible assumption | (with_reducible refine ck_nzI ?_; simp; done) | (with_reducible refine ck_nzL ?_; simp; done) | (with_reducible refine vp_in_nI ?_ ?_ <;> first | omega | decide) | (with_reducible refine Nat.le_of_ble_eq_true ?_; rfl) | omega)
            have zi := ih (k + 1) (by omega)
            simp only [cx_lw, zc14, ze14, zc21, ze21, zc32, ze32, ↓reduceIte] at zi
            exact zi
          · intro zc32
            with_reducible first | have ze32 := Int32.not_lt.mp zc32 | have ze32 := zc32
            refine hB bX3_clockAt_35 _ _ _ _ _ _ _ kX3_clockAt_35 ?_
            dsimp only [bX3_clockAt_35, kx_wp, kx_step, kx_lI, kx_lL, kx_lA, kx_gl, kx_pI, kx_pL, kx_pR, kx_pA, kx_pV, kx_s1, kx_s2, kx_sl, kx_pre, kx_c2, kx_pl, kx_cmp, kx_oF, kx_eqN, kx_nil, kx_c1, kx_ft, kx_aI, kx_aL, kx_aR, kx_ln, Nat.reduceAdd, Option.toList, List.cons_append, List.nil_append, cf3_3, cf3_2, cf3_1, cf3_0]
            repeat (simp only [hO, ha, hb, ht, h3, nI_1, ks_eq, ks_ss, nI_clamp (show k < 2 ^ 31 by omega)]; try dsimp only [kx_wp, kx_step, kx_lI, kx_lL, kx_lA, kx_gl, kx_pI, kx_pL, kx_pR, kx_pA, kx_pV, kx_s1, kx_s2, kx_sl, kx_pre, kx_c2, kx_pl, kx_cmp, kx_oF, kx_eqN, kx_nil, kx_c1, kx_ft, kx_aI, kx_aL, kx_aR, kx_ln, Nat.reduceAdd, Option.toList, List.cons_append, List.nil_append, cf3_3, cf3_2, cf3_1, cf3_0])
            repeat' apply And.intro
            all_goals try (first | with_reducible assumption | (with_reducible refine ck_nzI ?_; simp; done) | (with_reducible refine ck_nzL ?_; simp; done) | (with_reducible refine vp_in_nI ?_ ?_ <;> first | omega | decide) | (with_reducible refine Nat.le_of_ble_eq_true ?_; rfl) | omega)
            · intro zc43
              with_reducible first | have ze43 := Int32.not_le.mpr zc43 | have ze43 := zc43
              refine hB bX3_clockAt_75 _ _ _ _ _ _ _ kX3_clockAt_75 ?_
              dsimp only [bX3_clockAt_75, kx_wp, kx_step, kx_lI, kx_lL, kx_lA, kx_gl, kx_pI, kx_pL, kx_pR, kx_pA, kx_pV, kx_s1, kx_s2, kx_sl, kx_pre, kx_c2, kx_pl, kx_cmp, kx_oF, kx_eqN, kx_nil, kx_c1, kx_ft, kx_aI, kx_aL, kx_aR, kx_ln, Nat.reduceAdd, Option.toList, List.cons_append, List.nil_append, cf3_3, cf3_2, cf3_1, cf3_0]
              repeat (simp only [hO, ha, hb, ht, h3, nI_1, ks_eq, ks_ss, nI_clamp (show k < 2 ^ 31 by omega)]; try dsimp only [kx_wp, kx_step, kx_lI, kx_lL, kx_lA, kx_gl, kx_pI, kx_pL, kx_pR, kx_pA, kx_pV, kx_s1, kx_s2, kx_sl, kx_pre, kx_c2, kx_pl, kx_cmp, kx_oF, kx_eqN, kx_nil, kx_c1, kx_ft, kx_aI, kx_aL, kx_aR, kx_ln, Nat.reduceAdd, Option.toList, List.cons_append, List.nil_append, cf3_3, cf3_2, cf3_1, cf3_0])
              repeat' apply And.intro
              all_goals try (first | with_reducible assumption | (with_reducible refine ck_nzI ?_; simp; done) | (with_reducible refine ck_nzL ?_; simp; done) | (with_reducible refine vp_in_nI ?_ ?_ <;> first | omega | decide) | (with_reducible refine Nat.le_of_ble_eq_true ?_; rfl) | omega)
              have zi := ih (k + 1) (by omega)
              simp only [cx_lw, zc14, ze14, zc21, ze21, zc32, ze32, zc43, ze43, ↓reduceIte] at zi
              exact zi
            · intro zc43
              with_reducible first | have ze43 := Int32.not_lt.mp zc43 | have ze43 := zc43
              refine hB bX3_clockAt_46 _ _ _ _ _ _ _ kX3_clockAt_46 ?_
              dsimp only [bX3_clockAt_46, kx_wp, kx_step, kx_lI, kx_lL, kx_lA, kx_gl, kx_pI, kx_pL, kx_pR, kx_pA, kx_pV, kx_s1, kx_s2, kx_sl, kx_pre, kx_c2, kx_pl, kx_cmp, kx_oF, kx_eqN, kx_nil, kx_c1, kx_ft, kx_aI, kx_aL, kx_aR, kx_ln, Nat.reduceAdd, Option.toList, List.cons_append, List.nil_append, cf3_3, cf3_2, cf3_1, cf3_0]
              repeat (simp only [hO, ha, hb, ht, h3, nI_1, ks_eq, ks_ss, nI_clamp (show k < 2 ^ 31 by omega)]; try dsimp only [kx_wp, kx_step, kx_lI, kx_lL, kx_lA, kx_gl, kx_pI, kx_pL, kx_pR, kx_pA, kx_pV, kx_s1, kx_s2, kx_sl, kx_pre, kx_c2, kx_pl, kx_cmp, kx_oF, kx_eqN, kx_nil, kx_c1, kx_ft, kx_aI, kx_aL, kx_aR, kx_ln, Nat.reduceAdd, Option.toList, List.cons_append, List.nil_append, cf3_3, cf3_2, cf3_1, cf3_0])
              repeat' apply And.intro
              all_goals try (first | with_reducible assumption | (with_reducible refine ck_nzI ?_; simp; done) | (with_reducible refine ck_nzL ?_; simp; done) | (with_reducible refine vp_in_nI ?_ ?_ <;> first | omega | decide) | (with_reducible refine Nat.le_of_ble_eq_true ?_; rfl) | omega)
              · intro zc55
                with_reducible first | have ze55 := Int32.not_le.mpr zc55 | have ze55 := zc55
                refine hB bX3_clockAt_75 _ _ _ _ _ _ _ kX3_clockAt_75 ?_
                dsimp only [bX3_clockAt_75, kx_wp, kx_step, kx_lI, kx_lL, kx_lA, kx_gl, kx_pI, kx_pL, kx_pR, kx_pA, kx_pV, kx_s1, kx_s2, kx_sl, kx_pre, kx_c2, kx_pl, kx_cmp, kx_oF, kx_eqN, kx_nil, kx_c1, kx_ft, kx_aI, kx_aL, kx_aR, kx_ln, Nat.reduceAdd, Option.toList, List.cons_append, List.nil_append, cf3_3, cf3_2, cf3_1, cf3_0]
                repeat (simp only [hO, ha, hb, ht, h3, nI_1, ks_eq, ks_ss, nI_clamp (show k < 2 ^ 31 by omega)]; try dsimp only [kx_wp, kx_step, kx_lI, kx_lL, kx_lA, kx_gl, kx_pI, kx_pL, kx_pR, kx_pA, kx_pV, kx_s1, kx_s2, kx_sl, kx_pre, kx_c2, kx_pl, kx_cmp, kx_oF, kx_eqN, kx_nil, kx_c1, kx_ft, kx_aI, kx_aL, kx_aR, kx_ln, Nat.reduceAdd, Option.toList, List.cons_append, List.nil_append, cf3_3, cf3_2, cf3_1, cf3_0])
                repeat' apply And.intro
                all_goals try (first | with_reducible assumption | (with_reducible refine ck_nzI ?_; simp; done) | (with_reducible refine ck_nzL ?_; simp; done) | (with_reducible refine vp_in_nI ?_ ?_ <;> first | omega | decide) | (with_reducible refine Nat.le_of_ble_eq_true ?_; rfl) | omega)
                have zi := ih (k + 1) (by omega)
                simp only [cx_lw, zc14, ze14, zc21, ze21, zc32, ze32, zc43, ze43, zc55, ze55, ↓reduceIte] at zi
                exact zi
              · intro zc55
                with_reducible first | have ze55 := Int32.not_lt.mp zc55 | have ze55 := zc55
                refine hB bX3_clockAt_58 _ _ _ _ _ _ _ kX3_clockAt_58 ?_
                dsimp only [bX3_clockAt_58, kx_wp, kx_step, kx_lI, kx_lL, kx_lA, kx_gl, kx_pI, kx_pL, kx_pR, kx_pA, kx_pV, kx_s1, kx_s2, kx_sl, kx_pre, kx_c2, kx_pl, kx_cmp, kx_oF, kx_eqN, kx_nil, kx_c1, kx_ft, kx_aI, kx_aL, kx_aR, kx_ln, Nat.reduceAdd, Option.toList, List.cons_append, List.nil_append, cf3_3, cf3_2, cf3_1, cf3_0]
                repeat (simp only [hO, ha, hb, ht, h3, nI_1, ks_eq, ks_ss, nI_clamp (show k < 2 ^ 31 by omega)]; try dsimp only [kx_wp, kx_step, kx_lI, kx_lL, kx_lA, kx_gl, kx_pI, kx_pL, kx_pR, kx_pA, kx_pV, kx_s1, kx_s2, kx_sl, kx_pre, kx_c2, kx_pl, kx_cmp, kx_oF, kx_eqN, kx_nil, kx_c1, kx_ft, kx_aI, kx_aL, kx_aR, kx_ln, Nat.reduceAdd, Option.toList, List.cons_append, List.nil_append, cf3_3, cf3_2, cf3_1, cf3_0])
                repeat' apply And.intro
                all_goals try (first | with_reducible assumption | (with_reducible refine ck_nzI ?_; simp; done) | (with_reducible refine ck_nzL ?_; simp; done) | (with_reducible refine vp_in_nI ?_ ?_ <;> first | omega | decide) | (with_reducible refine Nat.le_of_ble_eq_true ?_; rfl) | omega)
                refine hB bX3_clockAt_75 _ _ _ _ _ _ _ kX3_clockAt_75 ?_
                dsimp only [bX3_clockAt_75, kx_wp, kx_step, kx_lI, kx_lL, kx_lA, kx_gl, kx_pI, kx_pL, kx_pR, kx_pA, kx_pV, kx_s1, kx_s2, kx_sl, kx_pre, kx_c2, kx_pl, kx_cmp, kx_oF, kx_eqN, kx_nil, kx_c1, kx_ft, kx_aI, kx_aL, kx_aR, kx_ln, Nat.reduceAdd, Option.toList, List.cons_append, List.nil_append, cf3_3, cf3_2, cf3_1, cf3_0]
                repeat (simp only [hO, ha, hb, ht, h3, nI_1, ks_eq, ks_ss, nI_clamp (show k < 2 ^ 31 by omega)]; try dsimp only [kx_wp, kx_step, kx_lI, kx_lL, kx_lA, kx_gl, kx_pI, kx_pL, kx_pR, kx_pA, kx_pV, kx_s1, kx_s2, kx_sl, kx_pre, kx_c2, kx_pl, kx_cmp, kx_oF, kx_eqN, kx_nil, kx_c1, kx_ft, kx_aI, kx_aL, kx_aR, kx_ln, Nat.reduceAdd, Option.toList, List.cons_append, List.nil_append, cf3_3, cf3_2, cf3_1, cf3_0])
                repeat' apply And.intro
                all_goals try (first | with_reducible assumption | (with_reducible refine ck_nzI ?_; simp; done) | (with_reducible refine ck_nzL ?_; simp; done) | (with_reducible refine vp_in_nI ?_ ?_ <;> first | omega | decide) | (with_reducible refine Nat.le_of_ble_eq_true ?_; rfl) | omega)
                have zi := ih (k + 1) (by omega)
                simp only [cx_lw, zc14, ze14, zc21, ze21, zc32, ze32, zc43, ze43, zc55, ze55, ↓reduceIte] at zi
                exact zi
  refine hB bX3_clockAt_0 _ _ _ _ _ _ _ kX3_clockAt_0 ?_
  dsimp only [bX3_clockAt_0, kx_wp, kx_step, kx_lI, kx_lL, kx_lA, kx_gl, kx_pI, kx_pL, kx_pR, kx_pA, kx_pV, kx_s1, kx_s2, kx_sl, kx_pre, kx_c2, kx_pl, kx_cmp, kx_oF, kx_eqN, kx_nil, kx_c1, kx_ft, kx_aI, kx_aL, kx_aR, kx_ln, Nat.reduceAdd, Option.toList, List.cons_append, List.nil_append, cf3_3, cf3_2, cf3_1, cf3_0]
  repeat (simp only [hO, ha, hb, ht, h3, nI_1, ks_eq, ks_ss]; try dsimp only [kx_wp, kx_step, kx_lI, kx_lL, kx_lA, kx_gl, kx_pI, kx_pL, kx_pR, kx_pA, kx_pV, kx_s1, kx_s2, kx_sl, kx_pre, kx_c2, kx_pl, kx_cmp, kx_oF, kx_eqN, kx_nil, kx_c1, kx_ft, kx_aI, kx_aL, kx_aR, kx_ln, Nat.reduceAdd, Option.toList, List.cons_append, List.nil_append, cf3_3, cf3_2, cf3_1, cf3_0])
  repeat' apply And.intro
  all_goals try (first | with_reducible assumption | (with_reducible refine ck_nzI ?_; simp; done) | (with_reducible refine ck_nzL ?_; simp; done) | (with_reducible refine vp_in_nI ?_ ?_ <;> first | omega | decide) | (with_reducible refine Nat.le_of_ble_eq_true ?_; rfl) | omega)
  exact loop8 n 0 (by omega)

def bX5_add_0 : List kx_O := [(.aload_n 0, 0, 0, 0, .null), (.getfield 24, 5, 4, 0, .null), (.bipush 100, 0, 0, 0, .int 100), (.if_icmp .lt 5, 11, 0, 0, .null)]
theorem kX5_add_0 : kx_oks kxL_X5 false cX5_add 0 bX5_add_0 = true := by decide +kernel
def bX5_add_9 : List kx_O := [(.iconst (-1), 0, 0, 0, .int (-1)), (.ireturn, 0, 0, 0, .null)]
theorem kX5_add_9 : kx_oks kxL_X5 false cX5_add 9 bX5_add_9 = true := by decide +kernel
def bX5_add_11 : List kx_O := [(.aload_n 0, 0, 0, 0, .null), (.getfield 11, 5, 0, 0, .null), (.aload_n 0, 0, 0, 0, .null), (.getfield 24, 5, 4, 0, .null), (.iload_n 1, 1, 0, 0, .null), (.iastore, 0, 0, 0, .null), (.aload_n 0, 0, 0, 0, .null), (.getfield 15, 5, 1, 0, .null), (.aload_n 0, 0, 0, 0, .null), (.getfield 24, 5, 4, 0, .null), (.iload_n 2, 2, 0, 0, .null), (.iastore, 0, 0, 0, .null), (.aload_n 0, 0, 0, 0, .null), (.getfield 18, 5, 2, 0, .null), (.aload_n 0, 0, 0, 0, .null), (.getfield 24, 5, 4, 0, .null), (.iload_n 3, 3, 0, 0, .null), (.iastore, 0, 0, 0, .null), (.aload_n 0, 0, 0, 0, .null), (.getfield 21, 5, 3, 0, .null), (.aload_n 0, 0, 0, 0, .null), (.getfield 24, 5, 4, 0, .null), (.iload 4, 4, 0, 0, .null), (.iastore, 0, 0, 0, .null), (.aload_n 0, 0, 0, 0, .null), (.dup, 0, 0, 0, .null), (.getfield 24, 5, 4, 0, .null), (.iconst 1, 0, 0, 0, .int 1), (.iadd, 0, 0, 0, .null), (.putfield 24, 5, 4, 0, .null), (.aload_n 0, 0, 0, 0, .null), (.getfield 24, 5, 4, 0, .null), (.ireturn, 0, 0, 0, .null)]
theorem kX5_add_11 : kx_oks kxL_X5 false cX5_add 11 bX5_add_11 = true := by decide +kernel
set_option maxRecDepth 100000 in
set_option maxHeartbeats 4000000 in
theorem ct_X5_add_n (l : Launch) (G : kx_G) {P : kx_P} {sz : Nat} {F rc rm re rt : Nat → Int32} (hO : P 84 = kO 5 (kf cr5 F)) (h85 : P 85 = kI 0 100 rc) (h86 : P 86 = kI 0 100 rm) (h87 : P 87 = kI 0 100 re) (h88 : P 88 = kI 0 100 rt) {c m e w : Int32} (h3 : F 4 = 100)  : kx_M l G sX5_add 1 0 0 [.ref 84, .int (c), .int (m), .int (e), .int (w)] P sz (some (.int (-1))) P sz := by
  refine kx_mk kx_tab kxLok_X5 (ini := false) [some (.ref 84), some (.int (c)), some (.int (m)), some (.int (e)), some (.int (w))] ⟨by decide, rfl, by decide, by decide⟩ (⟨_, rfl⟩) rfl rfl (fun g hB hC => ?_)
  refine hB bX5_add_0 _ _ _ _ _ _ _ kX5_add_0 ?_
  dsimp only [bX5_add_0, kx_wp, kx_step, kx_lI, kx_lL, kx_lA, kx_gl, kx_pI, kx_pL, kx_pR, kx_pA, kx_pV, kx_s1, kx_s2, kx_sl, kx_pre, kx_c2, kx_pl, kx_cmp, kx_oF, kx_eqN, kx_nil, kx_c1, kx_ft, kx_aI, kx_aL, kx_aR, kx_ln, Nat.reduceAdd, Option.toList, List.cons_append, List.nil_append, cf5_4, cf5_0, cf5_1, cf5_2, cf5_3]
  repeat (simp only [hO, h3, cp5_4, ks_eq, ks_ss]; try dsimp only [kx_wp, kx_step, kx_lI, kx_lL, kx_lA, kx_gl, kx_pI, kx_pL, kx_pR, kx_pA, kx_pV, kx_s1, kx_s2, kx_sl, kx_pre, kx_c2, kx_pl, kx_cmp, kx_oF, kx_eqN, kx_nil, kx_c1, kx_ft, kx_aI, kx_aL, kx_aR, kx_ln, Nat.reduceAdd, Option.toList, List.cons_append, List.nil_append, cf5_4, cf5_0, cf5_1, cf5_2, cf5_3])
  repeat' apply And.intro
  all_goals try (first | with_reducible assumption | (with_reducible refine ck_nzI ?_; simp; done) | (with_reducible refine ck_nzL ?_; simp; done) | (with_reducible refine vp_in_nI ?_ ?_ <;> first | omega | decide) | (with_reducible refine Nat.le_of_ble_eq_true ?_; rfl) | omega)
  · intro zc6
    first | exact absurd rfl zc6 | exact absurd zc6 (by decide) | exact absurd (by decide) zc6 | (exfalso; first | exact absurd ((nI_ltI (a := 100) (b := 100) (by omega) (by omega)).mp zc6) (by omega)) | (exfalso; simp_all; done)
  · intro zc6
    with_reducible first | have ze6 := Int32.not_lt.mp zc6 | have ze6 := zc6
    refine hB bX5_add_9 _ _ _ _ _ _ _ kX5_add_9 ?_
    dsimp only [bX5_add_9, kx_wp, kx_step, kx_lI, kx_lL, kx_lA, kx_gl, kx_pI, kx_pL, kx_pR, kx_pA, kx_pV, kx_s1, kx_s2, kx_sl, kx_pre, kx_c2, kx_pl, kx_cmp, kx_oF, kx_eqN, kx_nil, kx_c1, kx_ft, kx_aI, kx_aL, kx_aR, kx_ln, Nat.reduceAdd, Option.toList, List.cons_append, List.nil_append, cf5_4, cf5_0, cf5_1, cf5_2, cf5_3]
    repeat (simp only [hO, h3, cp5_4, ks_eq, ks_ss]; try dsimp only [kx_wp, kx_step, kx_lI, kx_lL, kx_lA, kx_gl, kx_pI, kx_pL, kx_pR, kx_pA, kx_pV, kx_s1, kx_s2, kx_sl, kx_pre, kx_c2, kx_pl, kx_cmp, kx_oF, kx_eqN, kx_nil, kx_c1, kx_ft, kx_aI, kx_aL, kx_aR, kx_ln, Nat.reduceAdd, Option.toList, List.cons_append, List.nil_append, cf5_4, cf5_0, cf5_1, cf5_2, cf5_3])
    all_goals (repeat' apply And.intro)
    all_goals ((try clear hB hC); first | exact True.intro | with_reducible rfl | with_reducible assumption | (with_reducible refine vp_in_nI ?_ ?_ <;> first | omega | decide) | exact Nat.le_of_ble_eq_true rfl | (with_reducible refine ck_nzI ?_; simp; done) | (with_reducible refine ck_nzL ?_; simp; done) | (simp only [pk_us, pk_uLs, zc6, ze6, ↓reduceIte, not_true_eq_false, not_false_eq_true]; done) | (simp only [zc6, ze6, ↓reduceIte, not_true_eq_false, not_false_eq_true]; with_reducible rfl) | skip)

set_option maxRecDepth 100000 in
set_option maxHeartbeats 4000000 in
theorem ct_X5_add_t (l : Launch) (G : kx_G) {P : kx_P} {sz : Nat} {F rc rm re rt : Nat → Int32} (hO : P 84 = kO 5 (kf cr5 F)) (h85 : P 85 = kI 0 100 rc) (h86 : P 86 = kI 0 100 rm) (h87 : P 87 = kI 0 100 re) (h88 : P 88 = kI 0 100 rt) {c m e w : Int32} {n : Nat} (h3 : F 4 = nI n) (hn : n < 100)  : kx_M l G sX5_add 1 0 0 [.ref 84, .int (c), .int (m), .int (e), .int (w)] P sz (some (.int (nI (n + 1)))) (kx_set (kx_set (kx_set (kx_set (kx_set P 85 (kI 0 100 (upd rc n c))) 86 (kI 0 100 (upd rm n m))) 87 (kI 0 100 (upd re n e))) 88 (kI 0 100 (upd rt n w))) 84 (kO 5 (kf cr5 (upd F 4 (nI (n + 1)))))) sz := by
  refine kx_mk kx_tab kxLok_X5 (ini := false) [some (.ref 84), some (.int (c)), some (.int (m)), some (.int (e)), some (.int (w))] ⟨by decide, rfl, by decide, by decide⟩ (⟨_, rfl⟩) rfl rfl (fun g hB hC => ?_)
  refine hB bX5_add_0 _ _ _ _ _ _ _ kX5_add_0 ?_
  dsimp only [bX5_add_0, kx_wp, kx_step, kx_lI, kx_lL, kx_lA, kx_gl, kx_pI, kx_pL, kx_pR, kx_pA, kx_pV, kx_s1, kx_s2, kx_sl, kx_pre, kx_c2, kx_pl, kx_cmp, kx_oF, kx_eqN, kx_nil, kx_c1, kx_ft, kx_aI, kx_aL, kx_aR, kx_ln, Nat.reduceAdd, Option.toList, List.cons_append, List.nil_append, cf5_4, cf5_0, cf5_1, cf5_2, cf5_3]
  repeat (simp only [hO, h85, h86, h87, h88, h3, nI_1, pk_us, nI_clamp (show n < 2 ^ 31 by omega), ks_ne (show ¬ (84 : Nat) = 85 by decide), ks_ne (show ¬ (84 : Nat) = 86 by decide), ks_ne (show ¬ (84 : Nat) = 87 by decide), ks_ne (show ¬ (84 : Nat) = 88 by decide), ks_ne (show ¬ (85 : Nat) = 84 by decide), ks_ne (show ¬ (85 : Nat) = 86 by decide), ks_ne (show ¬ (85 : Nat) = 87 by decide), ks_ne (show ¬ (85 : Nat) = 88 by decide), ks_ne (show ¬ (86 : Nat) = 84 by decide), ks_ne (show ¬ (86 : Nat) = 85 by decide), ks_ne (show ¬ (86 : Nat) = 87 by decide), ks_ne (show ¬ (86 : Nat) = 88 by decide), ks_ne (show ¬ (87 : Nat) = 84 by decide), ks_ne (show ¬ (87 : Nat) = 85 by decide), ks_ne (show ¬ (87 : Nat) = 86 by decide), ks_ne (show ¬ (87 : Nat) = 88 by decide), ks_ne (show ¬ (88 : Nat) = 84 by decide), ks_ne (show ¬ (88 : Nat) = 85 by decide), ks_ne (show ¬ (88 : Nat) = 86 by decide), ks_ne (show ¬ (88 : Nat) = 87 by decide), cp5_4, ks_eq, ks_ss]; try dsimp only [kx_wp, kx_step, kx_lI, kx_lL, kx_lA, kx_gl, kx_pI, kx_pL, kx_pR, kx_pA, kx_pV, kx_s1, kx_s2, kx_sl, kx_pre, kx_c2, kx_pl, kx_cmp, kx_oF, kx_eqN, kx_nil, kx_c1, kx_ft, kx_aI, kx_aL, kx_aR, kx_ln, Nat.reduceAdd, Option.toList, List.cons_append, List.nil_append, cf5_4, cf5_0, cf5_1, cf5_2, cf5_3])
  repeat' apply And.intro
  all_goals try (first | with_reducible assumption | (with_reducible refine ck_nzI ?_; simp; done) | (with_reducible refine ck_nzL ?_; simp; done) | (with_reducible refine vp_in_nI ?_ ?_ <;> first | omega | decide) | (with_reducible refine Nat.le_of_ble_eq_true ?_; rfl) | omega)
  · intro zc6
    with_reducible first | have ze6 := Int32.not_le.mpr zc6 | have ze6 := zc6
    refine hB bX5_add_11 _ _ _ _ _ _ _ kX5_add_11 ?_
    dsimp only [bX5_add_11, kx_wp, kx_step, kx_lI, kx_lL, kx_lA, kx_gl, kx_pI, kx_pL, kx_pR, kx_pA, kx_pV, kx_s1, kx_s2, kx_sl, kx_pre, kx_c2, kx_pl, kx_cmp, kx_oF, kx_eqN, kx_nil, kx_c1, kx_ft, kx_aI, kx_aL, kx_aR, kx_ln, Nat.reduceAdd, Option.toList, List.cons_append, List.nil_append, cf5_4, cf5_0, cf5_1, cf5_2, cf5_3]
    repeat (simp only [hO, h85, h86, h87, h88, h3, nI_1, pk_us, nI_clamp (show n < 2 ^ 31 by omega), ks_ne (show ¬ (84 : Nat) = 85 by decide), ks_ne (show ¬ (84 : Nat) = 86 by decide), ks_ne (show ¬ (84 : Nat) = 87 by decide), ks_ne (show ¬ (84 : Nat) = 88 by decide), ks_ne (show ¬ (85 : Nat) = 84 by decide), ks_ne (show ¬ (85 : Nat) = 86 by decide), ks_ne (show ¬ (85 : Nat) = 87 by decide), ks_ne (show ¬ (85 : Nat) = 88 by decide), ks_ne (show ¬ (86 : Nat) = 84 by decide), ks_ne (show ¬ (86 : Nat) = 85 by decide), ks_ne (show ¬ (86 : Nat) = 87 by decide), ks_ne (show ¬ (86 : Nat) = 88 by decide), ks_ne (show ¬ (87 : Nat) = 84 by decide), ks_ne (show ¬ (87 : Nat) = 85 by decide), ks_ne (show ¬ (87 : Nat) = 86 by decide), ks_ne (show ¬ (87 : Nat) = 88 by decide), ks_ne (show ¬ (88 : Nat) = 84 by decide), ks_ne (show ¬ (88 : Nat) = 85 by decide), ks_ne (show ¬ (88 : Nat) = 86 by decide), ks_ne (show ¬ (88 : Nat) = 87 by decide), cp5_4, ks_eq, ks_ss]; try dsimp only [kx_wp, kx_step, kx_lI, kx_lL, kx_lA, kx_gl, kx_pI, kx_pL, kx_pR, kx_pA, kx_pV, kx_s1, kx_s2, kx_sl, kx_pre, kx_c2, kx_pl, kx_cmp, kx_oF, kx_eqN, kx_nil, kx_c1, kx_ft, kx_aI, kx_aL, kx_aR, kx_ln, Nat.reduceAdd, Option.toList, List.cons_append, List.nil_append, cf5_4, cf5_0, cf5_1, cf5_2, cf5_3])
    all_goals (repeat' apply And.intro)
    all_goals ((try clear hB hC); first | exact True.intro | with_reducible rfl | with_reducible assumption | (with_reducible refine vp_in_nI ?_ ?_ <;> first | omega | decide) | exact Nat.le_of_ble_eq_true rfl | (with_reducible refine ck_nzI ?_; simp; done) | (with_reducible refine ck_nzL ?_; simp; done) | (simp only [pk_us, pk_uLs, zc6, ze6, ↓reduceIte, not_true_eq_false, not_false_eq_true]; done) | (simp only [zc6, ze6, ↓reduceIte, not_true_eq_false, not_false_eq_true]; with_reducible rfl) | skip)
  · intro zc6
    first | exact absurd rfl zc6 | exact absurd zc6 (by decide) | exact absurd (by decide) zc6 | (exfalso; first | exact absurd ((nI_ltI (a := n) (b := 100) (by omega) (by omega)).mpr (by omega)) zc6) | (exfalso; simp_all; done)

def cx_we (F : Nat → Int32) (m e : Int32) : Nat → Int32 :=
  if 0 < F 5 then (if m = F 8 then upd F 9 e else if F 5 = 0 then upd (upd (upd (upd (upd F 6 (F 8)) 7 (F 9)) 8 m) 9 e) 5 (cj_min 2 (F 5 + 1)) else if F 8 < m then upd (upd (upd (upd (upd F 6 (F 8)) 7 (F 9)) 8 m) 9 e) 5 (cj_min 2 (F 5 + 1)) else if F 5 = 1 then upd (upd (upd F 6 m) 7 e) 5 2 else if F 6 ≤ m then upd (upd (upd F 6 m) 7 e) 5 2 else F)
  else if F 5 = 0 then upd (upd (upd (upd (upd F 6 (F 8)) 7 (F 9)) 8 m) 9 e) 5 (cj_min 2 (F 5 + 1)) else if F 8 < m then upd (upd (upd (upd (upd F 6 (F 8)) 7 (F 9)) 8 m) 9 e) 5 (cj_min 2 (F 5 + 1)) else if F 5 = 1 then upd (upd (upd F 6 m) 7 e) 5 2 else if F 6 ≤ m then upd (upd (upd F 6 m) 7 e) 5 2 else F
theorem ks_same {P : kx_P} {a : Nat} {x : Option kx_C} (h : P a = x) : P = kx_set P a x := (ks_id h).symm
def bX5_weigh_0 : List kx_O := [(.aload_n 0, 0, 0, 0, .null), (.getfield 28, 5, 5, 0, .null), (.ifCond .le 19, 23, 0, 0, .null)]
theorem kX5_weigh_0 : kx_oks kxL_X5 false cX5_weigh 0 bX5_weigh_0 = true := by decide +kernel
def bX5_weigh_7 : List kx_O := [(.iload_n 1, 1, 0, 0, .null), (.aload_n 0, 0, 0, 0, .null), (.getfield 37, 5, 8, 0, .null), (.if_icmp .ne 11, 23, 0, 0, .null)]
theorem kX5_weigh_7 : kx_oks kxL_X5 false cX5_weigh 7 bX5_weigh_7 = true := by decide +kernel
def bX5_weigh_15 : List kx_O := [(.aload_n 0, 0, 0, 0, .null), (.iload_n 2, 2, 0, 0, .null), (.putfield 40, 5, 9, 0, .null), (.goto 92, 112, 0, 0, .null)]
theorem kX5_weigh_15 : kx_oks kxL_X5 false cX5_weigh 15 bX5_weigh_15 = true := by decide +kernel
def bX5_weigh_23 : List kx_O := [(.aload_n 0, 0, 0, 0, .null), (.getfield 28, 5, 5, 0, .null), (.ifCond .eq 11, 38, 0, 0, .null)]
theorem kX5_weigh_23 : kx_oks kxL_X5 false cX5_weigh 23 bX5_weigh_23 = true := by decide +kernel
def bX5_weigh_30 : List kx_O := [(.iload_n 1, 1, 0, 0, .null), (.aload_n 0, 0, 0, 0, .null), (.getfield 37, 5, 8, 0, .null), (.if_icmp .le 46, 81, 0, 0, .null)]
theorem kX5_weigh_30 : kx_oks kxL_X5 false cX5_weigh 30 bX5_weigh_30 = true := by decide +kernel
def bX5_weigh_38 : List kx_O := [(.aload_n 0, 0, 0, 0, .null), (.aload_n 0, 0, 0, 0, .null), (.getfield 37, 5, 8, 0, .null), (.putfield 31, 5, 6, 0, .null), (.aload_n 0, 0, 0, 0, .null), (.aload_n 0, 0, 0, 0, .null), (.getfield 40, 5, 9, 0, .null), (.putfield 34, 5, 7, 0, .null), (.aload_n 0, 0, 0, 0, .null), (.iload_n 1, 1, 0, 0, .null), (.putfield 37, 5, 8, 0, .null), (.aload_n 0, 0, 0, 0, .null), (.iload_n 2, 2, 0, 0, .null), (.putfield 40, 5, 9, 0, .null), (.aload_n 0, 0, 0, 0, .null), (.iconst 2, 0, 0, 0, .int 2), (.aload_n 0, 0, 0, 0, .null), (.getfield 28, 5, 5, 0, .null), (.iconst 1, 0, 0, 0, .int 1), (.iadd, 0, 0, 0, .null)]
theorem kX5_weigh_38 : kx_oks kxL_X5 false cX5_weigh 38 bX5_weigh_38 = true := by decide +kernel
def bX5_weigh_75 : List kx_O := [(.putfield 28, 5, 5, 0, .null), (.goto 34, 112, 0, 0, .null)]
theorem kX5_weigh_75 : kx_oks kxL_X5 false cX5_weigh 75 bX5_weigh_75 = true := by decide +kernel
def bX5_weigh_81 : List kx_O := [(.aload_n 0, 0, 0, 0, .null), (.getfield 28, 5, 5, 0, .null), (.iconst 1, 0, 0, 0, .int 1), (.if_icmp .eq 11, 97, 0, 0, .null)]
theorem kX5_weigh_81 : kx_oks kxL_X5 false cX5_weigh 81 bX5_weigh_81 = true := by decide +kernel
def bX5_weigh_89 : List kx_O := [(.iload_n 1, 1, 0, 0, .null), (.aload_n 0, 0, 0, 0, .null), (.getfield 31, 5, 6, 0, .null), (.if_icmp .lt 18, 112, 0, 0, .null)]
theorem kX5_weigh_89 : kx_oks kxL_X5 false cX5_weigh 89 bX5_weigh_89 = true := by decide +kernel
def bX5_weigh_97 : List kx_O := [(.aload_n 0, 0, 0, 0, .null), (.iload_n 1, 1, 0, 0, .null), (.putfield 31, 5, 6, 0, .null), (.aload_n 0, 0, 0, 0, .null), (.iload_n 2, 2, 0, 0, .null), (.putfield 34, 5, 7, 0, .null), (.aload_n 0, 0, 0, 0, .null), (.iconst 2, 0, 0, 0, .int 2), (.putfield 28, 5, 5, 0, .null)]
theorem kX5_weigh_97 : kx_oks kxL_X5 false cX5_weigh 97 bX5_weigh_97 = true := by decide +kernel
def bX5_weigh_112 : List kx_O := [(.return_, 0, 0, 0, .null)]
theorem kX5_weigh_112 : kx_oks kxL_X5 false cX5_weigh 112 bX5_weigh_112 = true := by decide +kernel
theorem dX5_weigh_72 : decode cX5_weigh 72 = .ok (.invokestatic 47, 3) := by decide +kernel
set_option maxRecDepth 100000 in
set_option maxHeartbeats 4000000 in
theorem ct_X5_weigh (l : Launch) (G : kx_G) {P : kx_P} {sz : Nat} {F : Nat → Int32} (hO : P 84 = kO 5 (kf cr5 F)) {m e : Int32}  : kx_M l G sX5_weigh 2 0 0 [.ref 84, .int (m), .int (e)] P sz none (kx_set P 84 (kO 5 (kf cr5 (cx_we F m e)))) sz := by
  refine kx_mk kx_tab kxLok_X5 (ini := false) [some (.ref 84), some (.int (m)), some (.int (e))] ⟨by decide, rfl, by decide, by decide⟩ (rfl) rfl rfl (fun g hB hC => ?_)
  refine hB bX5_weigh_0 _ _ _ _ _ _ _ kX5_weigh_0 ?_
  dsimp only [bX5_weigh_0, kx_wp, kx_step, kx_lI, kx_lL, kx_lA, kx_gl, kx_pI, kx_pL, kx_pR, kx_pA, kx_pV, kx_s1, kx_s2, kx_sl, kx_pre, kx_c2, kx_pl, kx_cmp, kx_oF, kx_eqN, kx_nil, kx_c1, kx_ft, kx_aI, kx_aL, kx_aR, kx_ln, Nat.reduceAdd, Option.toList, List.cons_append, List.nil_append, cf5_5, cf5_8, cf5_9, cf5_6, cf5_7]
  repeat (simp only [hO, pk_us, pk_un (show ¬ (9:Nat) = 6 by decide), pk_un (show ¬ (5:Nat) = 6 by decide), pk_un (show ¬ (5:Nat) = 7 by decide), pk_un (show ¬ (5:Nat) = 8 by decide), pk_un (show ¬ (5:Nat) = 9 by decide), cp5_9, cp5_6, cp5_7, cp5_8, cp5_5, ks_eq, ks_ss]; try dsimp only [kx_wp, kx_step, kx_lI, kx_lL, kx_lA, kx_gl, kx_pI, kx_pL, kx_pR, kx_pA, kx_pV, kx_s1, kx_s2, kx_sl, kx_pre, kx_c2, kx_pl, kx_cmp, kx_oF, kx_eqN, kx_nil, kx_c1, kx_ft, kx_aI, kx_aL, kx_aR, kx_ln, Nat.reduceAdd, Option.toList, List.cons_append, List.nil_append, cf5_5, cf5_8, cf5_9, cf5_6, cf5_7])
  repeat' apply And.intro
  all_goals try (first | with_reducible assumption | (with_reducible refine ck_nzI ?_; simp; done) | (with_reducible refine ck_nzL ?_; simp; done) | (with_reducible refine vp_in_nI ?_ ?_ <;> first | omega | decide) | (with_reducible refine Nat.le_of_ble_eq_true ?_; rfl) | omega)
  · intro zc4
    with_reducible first | have ze4 := Int32.not_lt.mpr zc4 | have ze4 := zc4
    refine hB bX5_weigh_23 _ _ _ _ _ _ _ kX5_weigh_23 ?_
    dsimp only [bX5_weigh_23, kx_wp, kx_step, kx_lI, kx_lL, kx_lA, kx_gl, kx_pI, kx_pL, kx_pR, kx_pA, kx_pV, kx_s1, kx_s2, kx_sl, kx_pre, kx_c2, kx_pl, kx_cmp, kx_oF, kx_eqN, kx_nil, kx_c1, kx_ft, kx_aI, kx_aL, kx_aR, kx_ln, Nat.reduceAdd, Option.toList, List.cons_append, List.nil_append, cf5_5, cf5_8, cf5_9, cf5_6, cf5_7]
    repeat (simp only [hO, pk_us, pk_un (show ¬ (9:Nat) = 6 by decide), pk_un (show ¬ (5:Nat) = 6 by decide), pk_un (show ¬ (5:Nat) = 7 by decide), pk_un (show ¬ (5:Nat) = 8 by decide), pk_un (show ¬ (5:Nat) = 9 by decide), cp5_9, cp5_6, cp5_7, cp5_8, cp5_5, ks_eq, ks_ss]; try dsimp only [kx_wp, kx_step, kx_lI, kx_lL, kx_lA, kx_gl, kx_pI, kx_pL, kx_pR, kx_pA, kx_pV, kx_s1, kx_s2, kx_sl, kx_pre, kx_c2, kx_pl, kx_cmp, kx_oF, kx_eqN, kx_nil, kx_c1, kx_ft, kx_aI, kx_aL, kx_aR, kx_ln, Nat.reduceAdd, Option.toList, List.cons_append, List.nil_append, cf5_5, cf5_8, cf5_9, cf5_6, cf5_7])
    repeat' apply And.intro
    all_goals try (first | with_reducible assumption | (with_reducible refine ck_nzI ?_; simp; done) | (with_reducible refine ck_nzL ?_; simp; done) | (with_reducible refine vp_in_nI ?_ ?_ <;> first | omega | decide) | (with_reducible refine Nat.le_of_ble_eq_true ?_; rfl) | omega)
    · intro zc27
      have ze27 := zc27
      refine hB bX5_weigh_38 _ _ _ _ _ _ _ kX5_weigh_38 ?_
      dsimp only [bX5_weigh_38, kx_wp, kx_step, kx_lI, kx_lL, kx_lA, kx_gl, kx_pI, kx_pL, kx_pR, kx_pA, kx_pV, kx_s1, kx_s2, kx_sl, kx_pre, kx_c2, kx_pl, kx_cmp, kx_oF, kx_eqN, kx_nil, kx_c1, kx_ft, kx_aI, kx_aL, kx_aR, kx_ln, Nat.reduceAdd, Option.toList, List.cons_append, List.nil_append, cf5_5, cf5_8, cf5_9, cf5_6, cf5_7]
      repeat (simp only [hO, pk_us, pk_un (show ¬ (9:Nat) = 6 by decide), pk_un (show ¬ (5:Nat) = 6 by decide), pk_un (show ¬ (5:Nat) = 7 by decide), pk_un (show ¬ (5:Nat) = 8 by decide), pk_un (show ¬ (5:Nat) = 9 by decide), cp5_9, cp5_6, cp5_7, cp5_8, cp5_5, ks_eq, ks_ss]; try dsimp only [kx_wp, kx_step, kx_lI, kx_lL, kx_lA, kx_gl, kx_pI, kx_pL, kx_pR, kx_pA, kx_pV, kx_s1, kx_s2, kx_sl, kx_pre, kx_c2, kx_pl, kx_cmp, kx_oF, kx_eqN, kx_nil, kx_c1, kx_ft, kx_aI, kx_aL, kx_aR, kx_ln, Nat.reduceAdd, Option.toList, List.cons_append, List.nil_append, cf5_5, cf5_8, cf5_9, cf5_6, cf5_7])
      repeat' apply And.intro
      all_goals try (first | with_reducible assumption | (with_reducible refine ck_nzI ?_; simp; done) | (with_reducible refine ck_nzL ?_; simp; done) | (with_reducible refine vp_in_nI ?_ ?_ <;> first | omega | decide) | (with_reducible refine Nat.le_of_ble_eq_true ?_; rfl) | omega)
      refine hC.2.1 47 _ _ _ _ _ _ _ _ _ _ _ _ _ _ _ _ _ lX5_47 (ct_J9_min_7cf53 l G) rfl rfl (Nat.le_of_ble_eq_true rfl) (by decide) (by decide) (by omega) (by omega) dX5_weigh_72 ?_
      refine hB bX5_weigh_75 _ _ _ _ _ _ _ kX5_weigh_75 ?_
      dsimp only [bX5_weigh_75, kx_wp, kx_step, kx_lI, kx_lL, kx_lA, kx_gl, kx_pI, kx_pL, kx_pR, kx_pA, kx_pV, kx_s1, kx_s2, kx_sl, kx_pre, kx_c2, kx_pl, kx_cmp, kx_oF, kx_eqN, kx_nil, kx_c1, kx_ft, kx_aI, kx_aL, kx_aR, kx_ln, Nat.reduceAdd, Option.toList, List.cons_append, List.nil_append, cf5_5, cf5_8, cf5_9, cf5_6, cf5_7]
      repeat (simp only [hO, pk_us, pk_un (show ¬ (9:Nat) = 6 by decide), pk_un (show ¬ (5:Nat) = 6 by decide), pk_un (show ¬ (5:Nat) = 7 by decide), pk_un (show ¬ (5:Nat) = 8 by decide), pk_un (show ¬ (5:Nat) = 9 by decide), cp5_9, cp5_6, cp5_7, cp5_8, cp5_5, ks_eq, ks_ss]; try dsimp only [kx_wp, kx_step, kx_lI, kx_lL, kx_lA, kx_gl, kx_pI, kx_pL, kx_pR, kx_pA, kx_pV, kx_s1, kx_s2, kx_sl, kx_pre, kx_c2, kx_pl, kx_cmp, kx_oF, kx_eqN, kx_nil, kx_c1, kx_ft, kx_aI, kx_aL, kx_aR, kx_ln, Nat.reduceAdd, Option.toList, List.cons_append, List.nil_append, cf5_5, cf5_8, cf5_9, cf5_6, cf5_7])
      repeat' apply And.intro
      all_goals try (first | with_reducible assumption | (with_reducible refine ck_nzI ?_; simp; done) | (with_reducible refine ck_nzL ?_; simp; done) | (with_reducible refine vp_in_nI ?_ ?_ <;> first | omega | decide) | (with_reducible refine Nat.le_of_ble_eq_true ?_; rfl) | omega)
      refine hB bX5_weigh_112 _ _ _ _ _ _ _ kX5_weigh_112 ?_
      dsimp only [bX5_weigh_112, kx_wp, kx_step, kx_lI, kx_lL, kx_lA, kx_gl, kx_pI, kx_pL, kx_pR, kx_pA, kx_pV, kx_s1, kx_s2, kx_sl, kx_pre, kx_c2, kx_pl, kx_cmp, kx_oF, kx_eqN, kx_nil, kx_c1, kx_ft, kx_aI, kx_aL, kx_aR, kx_ln, Nat.reduceAdd, Option.toList, List.cons_append, List.nil_append, cf5_5, cf5_8, cf5_9, cf5_6, cf5_7]
      repeat (simp only [hO, pk_us, pk_un (show ¬ (9:Nat) = 6 by decide), pk_un (show ¬ (5:Nat) = 6 by decide), pk_un (show ¬ (5:Nat) = 7 by decide), pk_un (show ¬ (5:Nat) = 8 by decide), pk_un (show ¬ (5:Nat) = 9 by decide), cp5_9, cp5_6, cp5_7, cp5_8, cp5_5, ks_eq, ks_ss]; try dsimp only [kx_wp, kx_step, kx_lI, kx_lL, kx_lA, kx_gl, kx_pI, kx_pL, kx_pR, kx_pA, kx_pV, kx_s1, kx_s2, kx_sl, kx_pre, kx_c2, kx_pl, kx_cmp, kx_oF, kx_eqN, kx_nil, kx_c1, kx_ft, kx_aI, kx_aL, kx_aR, kx_ln, Nat.reduceAdd, Option.toList, List.cons_append, List.nil_append, cf5_5, cf5_8, cf5_9, cf5_6, cf5_7])
      all_goals (repeat' apply And.intro)
      all_goals ((try clear hB hC); first | exact True.intro | with_reducible rfl | (simp only [cx_we, zc4, ze4, eq_true ze27, ↓reduceIte]; done) | (simp only [cx_we, zc4, ze4, eq_true ze27, ↓reduceIte]; exact ks_same hO))
    · intro zc27
      have ze27 := zc27
      refine hB bX5_weigh_30 _ _ _ _ _ _ _ kX5_weigh_30 ?_
      dsimp only [bX5_weigh_30, kx_wp, kx_step, kx_lI, kx_lL, kx_lA, kx_gl, kx_pI, kx_pL, kx_pR, kx_pA, kx_pV, kx_s1, kx_s2, kx_sl, kx_pre, kx_c2, kx_pl, kx_cmp, kx_oF, kx_eqN, kx_nil, kx_c1, kx_ft, kx_aI, kx_aL, kx_aR, kx_ln, Nat.reduceAdd, Option.toList, List.cons_append, List.nil_append, cf5_5, cf5_8, cf5_9, cf5_6, cf5_7]
      repeat (simp only [hO, pk_us, pk_un (show ¬ (9:Nat) = 6 by decide), pk_un (show ¬ (5:Nat) = 6 by decide), pk_un (show ¬ (5:Nat) = 7 by decide), pk_un (show ¬ (5:Nat) = 8 by decide), pk_un (show ¬ (5:Nat) = 9 by decide), cp5_9, cp5_6, cp5_7, cp5_8, cp5_5, ks_eq, ks_ss]; try dsimp only [kx_wp, kx_step, kx_lI, kx_lL, kx_lA, kx_gl, kx_pI, kx_pL, kx_pR, kx_pA, kx_pV, kx_s1, kx_s2, kx_sl, kx_pre, kx_c2, kx_pl, kx_cmp, kx_oF, kx_eqN, kx_nil, kx_c1, kx_ft, kx_aI, kx_aL, kx_aR, kx_ln, Nat.reduceAdd, Option.toList, List.cons_append, List.nil_append, cf5_5, cf5_8, cf5_9, cf5_6, cf5_7])
      repeat' apply And.intro
      all_goals try (first | with_reducible assumption | (with_reducible refine ck_nzI ?_; simp; done) | (with_reducible refine ck_nzL ?_; simp; done) | (with_reducible refine vp_in_nI ?_ ?_ <;> first | omega | decide) | (with_reducible refine Nat.le_of_ble_eq_true ?_; rfl) | omega)
      · intro zc35
        with_reducible first | have ze35 := Int32.not_lt.mpr zc35 | have ze35 := zc35
        refine hB bX5_weigh_81 _ _ _ _ _ _ _ kX5_weigh_81 ?_
        dsimp only [bX5_weigh_81, kx_wp, kx_step, kx_lI, kx_lL, kx_lA, kx_gl, kx_pI, kx_pL, kx_pR, kx_pA, kx_pV, kx_s1, kx_s2, kx_sl, kx_pre, kx_c2, kx_pl, kx_cmp, kx_oF, kx_eqN, kx_nil, kx_c1, kx_ft, kx_aI, kx_aL, kx_aR, kx_ln, Nat.reduceAdd, Option.toList, List.cons_append, List.nil_append, cf5_5, cf5_8, cf5_9, cf5_6, cf5_7]
        repeat (simp only [hO, pk_us, pk_un (show ¬ (9:Nat) = 6 by decide), pk_un (show ¬ (5:Nat) = 6 by decide), pk_un (show ¬ (5:Nat) = 7 by decide), pk_un (show ¬ (5:Nat) = 8 by decide), pk_un (show ¬ (5:Nat) = 9 by decide), cp5_9, cp5_6, cp5_7, cp5_8, cp5_5, ks_eq, ks_ss]; try dsimp only [kx_wp, kx_step, kx_lI, kx_lL, kx_lA, kx_gl, kx_pI, kx_pL, kx_pR, kx_pA, kx_pV, kx_s1, kx_s2, kx_sl, kx_pre, kx_c2, kx_pl, kx_cmp, kx_oF, kx_eqN, kx_nil, kx_c1, kx_ft, kx_aI, kx_aL, kx_aR, kx_ln, Nat.reduceAdd, Option.toList, List.cons_append, List.nil_append, cf5_5, cf5_8, cf5_9, cf5_6, cf5_7])
        repeat' apply And.intro
        all_goals try (first | with_reducible assumption | (with_reducible refine ck_nzI ?_; simp; done) | (with_reducible refine ck_nzL ?_; simp; done) | (with_reducible refine vp_in_nI ?_ ?_ <;> first | omega | decide) | (with_reducible refine Nat.le_of_ble_eq_true ?_; rfl) | omega)
        · intro zc86
          have ze86 := zc86
          refine hB bX5_weigh_97 _ _ _ _ _ _ _ kX5_weigh_97 ?_
          dsimp only [bX5_weigh_97, kx_wp, kx_step, kx_lI, kx_lL, kx_lA, kx_gl, kx_pI, kx_pL, kx_pR, kx_pA, kx_pV, kx_s1, kx_s2, kx_sl, kx_pre, kx_c2, kx_pl, kx_cmp, kx_oF, kx_eqN, kx_nil, kx_c1, kx_ft, kx_aI, kx_aL, kx_aR, kx_ln, Nat.reduceAdd, Option.toList, List.cons_append, List.nil_append, cf5_5, cf5_8, cf5_9, cf5_6, cf5_7]
          repeat (simp only [hO, pk_us, pk_un (show ¬ (9:Nat) = 6 by decide), pk_un (show ¬ (5:Nat) = 6 by decide), pk_un (show ¬ (5:Nat) = 7 by decide), pk_un (show ¬ (5:Nat) = 8 by decide), pk_un (show ¬ (5:Nat) = 9 by decide), cp5_9, cp5_6, cp5_7, cp5_8, cp5_5, ks_eq, ks_ss]; try dsimp only [kx_wp, kx_step, kx_lI, kx_lL, kx_lA, kx_gl, kx_pI, kx_pL, kx_pR, kx_pA, kx_pV, kx_s1, kx_s2, kx_sl, kx_pre, kx_c2, kx_pl, kx_cmp, kx_oF, kx_eqN, kx_nil, kx_c1, kx_ft, kx_aI, kx_aL, kx_aR, kx_ln, Nat.reduceAdd, Option.toList, List.cons_append, List.nil_append, cf5_5, cf5_8, cf5_9, cf5_6, cf5_7])
          repeat' apply And.intro
          all_goals try (first | with_reducible assumption | (with_reducible refine ck_nzI ?_; simp; done) | (with_reducible refine ck_nzL ?_; simp; done) | (with_reducible refine vp_in_nI ?_ ?_ <;> first | omega | decide) | (with_reducible refine Nat.le_of_ble_eq_true ?_; rfl) | omega)
          refine hB bX5_weigh_112 _ _ _ _ _ _ _ kX5_weigh_112 ?_
          dsimp only [bX5_weigh_112, kx_wp, kx_step, kx_lI, kx_lL, kx_lA, kx_gl, kx_pI, kx_pL, kx_pR, kx_pA, kx_pV, kx_s1, kx_s2, kx_sl, kx_pre, kx_c2, kx_pl, kx_cmp, kx_oF, kx_eqN, kx_nil, kx_c1, kx_ft, kx_aI, kx_aL, kx_aR, kx_ln, Nat.reduceAdd, Option.toList, List.cons_append, List.nil_append, cf5_5, cf5_8, cf5_9, cf5_6, cf5_7]
          repeat (simp only [hO, pk_us, pk_un (show ¬ (9:Nat) = 6 by decide), pk_un (show ¬ (5:Nat) = 6 by decide), pk_un (show ¬ (5:Nat) = 7 by decide), pk_un (show ¬ (5:Nat) = 8 by decide), pk_un (show ¬ (5:Nat) = 9 by decide), cp5_9, cp5_6, cp5_7, cp5_8, cp5_5, ks_eq, ks_ss]; try dsimp only [kx_wp, kx_step, kx_lI, kx_lL, kx_lA, kx_gl, kx_pI, kx_pL, kx_pR, kx_pA, kx_pV, kx_s1, kx_s2, kx_sl, kx_pre, kx_c2, kx_pl, kx_cmp, kx_oF, kx_eqN, kx_nil, kx_c1, kx_ft, kx_aI, kx_aL, kx_aR, kx_ln, Nat.reduceAdd, Option.toList, List.cons_append, List.nil_append, cf5_5, cf5_8, cf5_9, cf5_6, cf5_7])
          all_goals (repeat' apply And.intro)
          all_goals ((try clear hB hC); first | exact True.intro | with_reducible rfl | (simp only [cx_we, zc4, ze4, ze27, zc35, ze35, eq_true ze86, ↓reduceIte]; done) | (simp only [cx_we, zc4, ze4, ze27, zc35, ze35, eq_true ze86, ↓reduceIte]; exact ks_same hO))
        · intro zc86
          have ze86 := zc86
          refine hB bX5_weigh_89 _ _ _ _ _ _ _ kX5_weigh_89 ?_
          dsimp only [bX5_weigh_89, kx_wp, kx_step, kx_lI, kx_lL, kx_lA, kx_gl, kx_pI, kx_pL, kx_pR, kx_pA, kx_pV, kx_s1, kx_s2, kx_sl, kx_pre, kx_c2, kx_pl, kx_cmp, kx_oF, kx_eqN, kx_nil, kx_c1, kx_ft, kx_aI, kx_aL, kx_aR, kx_ln, Nat.reduceAdd, Option.toList, List.cons_append, List.nil_append, cf5_5, cf5_8, cf5_9, cf5_6, cf5_7]
          repeat (simp only [hO, pk_us, pk_un (show ¬ (9:Nat) = 6 by decide), pk_un (show ¬ (5:Nat) = 6 by decide), pk_un (show ¬ (5:Nat) = 7 by decide), pk_un (show ¬ (5:Nat) = 8 by decide), pk_un (show ¬ (5:Nat) = 9 by decide), cp5_9, cp5_6, cp5_7, cp5_8, cp5_5, ks_eq, ks_ss]; try dsimp only [kx_wp, kx_step, kx_lI, kx_lL, kx_lA, kx_gl, kx_pI, kx_pL, kx_pR, kx_pA, kx_pV, kx_s1, kx_s2, kx_sl, kx_pre, kx_c2, kx_pl, kx_cmp, kx_oF, kx_eqN, kx_nil, kx_c1, kx_ft, kx_aI, kx_aL, kx_aR, kx_ln, Nat.reduceAdd, Option.toList, List.cons_append, List.nil_append, cf5_5, cf5_8, cf5_9, cf5_6, cf5_7])
          repeat' apply And.intro
          all_goals try (first | with_reducible assumption | (with_reducible refine ck_nzI ?_; simp; done) | (with_reducible refine ck_nzL ?_; simp; done) | (with_reducible refine vp_in_nI ?_ ?_ <;> first | omega | decide) | (with_reducible refine Nat.le_of_ble_eq_true ?_; rfl) | omega)
          · intro zc94
            with_reducible first | have ze94 := Int32.not_le.mpr zc94 | have ze94 := zc94
            refine hB bX5_weigh_112 _ _ _ _ _ _ _ kX5_weigh_112 ?_
            dsimp only [bX5_weigh_112, kx_wp, kx_step, kx_lI, kx_lL, kx_lA, kx_gl, kx_pI, kx_pL, kx_pR, kx_pA, kx_pV, kx_s1, kx_s2, kx_sl, kx_pre, kx_c2, kx_pl, kx_cmp, kx_oF, kx_eqN, kx_nil, kx_c1, kx_ft, kx_aI, kx_aL, kx_aR, kx_ln, Nat.reduceAdd, Option.toList, List.cons_append, List.nil_append, cf5_5, cf5_8, cf5_9, cf5_6, cf5_7]
            repeat (simp only [hO, pk_us, pk_un (show ¬ (9:Nat) = 6 by decide), pk_un (show ¬ (5:Nat) = 6 by decide), pk_un (show ¬ (5:Nat) = 7 by decide), pk_un (show ¬ (5:Nat) = 8 by decide), pk_un (show ¬ (5:Nat) = 9 by decide), cp5_9, cp5_6, cp5_7, cp5_8, cp5_5, ks_eq, ks_ss]; try dsimp only [kx_wp, kx_step, kx_lI, kx_lL, kx_lA, kx_gl, kx_pI, kx_pL, kx_pR, kx_pA, kx_pV, kx_s1, kx_s2, kx_sl, kx_pre, kx_c2, kx_pl, kx_cmp, kx_oF, kx_eqN, kx_nil, kx_c1, kx_ft, kx_aI, kx_aL, kx_aR, kx_ln, Nat.reduceAdd, Option.toList, List.cons_append, List.nil_append, cf5_5, cf5_8, cf5_9, cf5_6, cf5_7])
            all_goals (repeat' apply And.intro)
            all_goals ((try clear hB hC); first | exact True.intro | with_reducible rfl | (simp only [cx_we, zc4, ze4, ze27, zc35, ze35, ze86, zc94, ze94, ↓reduceIte]; done) | (simp only [cx_we, zc4, ze4, ze27, zc35, ze35, ze86, zc94, ze94, ↓reduceIte]; exact ks_same hO))
          · intro zc94
            with_reducible first | have ze94 := Int32.not_lt.mp zc94 | have ze94 := zc94
            refine hB bX5_weigh_97 _ _ _ _ _ _ _ kX5_weigh_97 ?_
            dsimp only [bX5_weigh_97, kx_wp, kx_step, kx_lI, kx_lL, kx_lA, kx_gl, kx_pI, kx_pL, kx_pR, kx_pA, kx_pV, kx_s1, kx_s2, kx_sl, kx_pre, kx_c2, kx_pl, kx_cmp, kx_oF, kx_eqN, kx_nil, kx_c1, kx_ft, kx_aI, kx_aL, kx_aR, kx_ln, Nat.reduceAdd, Option.toList, List.cons_append, List.nil_append, cf5_5, cf5_8, cf5_9, cf5_6, cf5_7]
            repeat (simp only [hO, pk_us, pk_un (show ¬ (9:Nat) = 6 by decide), pk_un (show ¬ (5:Nat) = 6 by decide), pk_un (show ¬ (5:Nat) = 7 by decide), pk_un (show ¬ (5:Nat) = 8 by decide), pk_un (show ¬ (5:Nat) = 9 by decide), cp5_9, cp5_6, cp5_7, cp5_8, cp5_5, ks_eq, ks_ss]; try dsimp only [kx_wp, kx_step, kx_lI, kx_lL, kx_lA, kx_gl, kx_pI, kx_pL, kx_pR, kx_pA, kx_pV, kx_s1, kx_s2, kx_sl, kx_pre, kx_c2, kx_pl, kx_cmp, kx_oF, kx_eqN, kx_nil, kx_c1, kx_ft, kx_aI, kx_aL, kx_aR, kx_ln, Nat.reduceAdd, Option.toList, List.cons_append, List.nil_append, cf5_5, cf5_8, cf5_9, cf5_6, cf5_7])
            repeat' apply And.intro
            all_goals try (first | with_reducible assumption | (with_reducible refine ck_nzI ?_; simp; done) | (with_reducible refine ck_nzL ?_; simp; done) | (with_reducible refine vp_in_nI ?_ ?_ <;> first | omega | decide) | (with_reducible refine Nat.le_of_ble_eq_true ?_; rfl) | omega)
            refine hB bX5_weigh_112 _ _ _ _ _ _ _ kX5_weigh_112 ?_
            dsimp only [bX5_weigh_112, kx_wp, kx_step, kx_lI, kx_lL, kx_lA, kx_gl, kx_pI, kx_pL, kx_pR, kx_pA, kx_pV, kx_s1, kx_s2, kx_sl, kx_pre, kx_c2, kx_pl, kx_cmp, kx_oF, kx_eqN, kx_nil, kx_c1, kx_ft, kx_aI, kx_aL, kx_aR, kx_ln, Nat.reduceAdd, Option.toList, List.cons_append, List.nil_append, cf5_5, cf5_8, cf5_9, cf5_6, cf5_7]
            repeat (simp only [hO, pk_us, pk_un (show ¬ (9:Nat) = 6 by decide), pk_un (show ¬ (5:Nat) = 6 by decide), pk_un (show ¬ (5:Nat) = 7 by decide), pk_un (show ¬ (5:Nat) = 8 by decide), pk_un (show ¬ (5:Nat) = 9 by decide), cp5_9, cp5_6, cp5_7, cp5_8, cp5_5, ks_eq, ks_ss]; try dsimp only [kx_wp, kx_step, kx_lI, kx_lL, kx_lA, kx_gl, kx_pI, kx_pL, kx_pR, kx_pA, kx_pV, kx_s1, kx_s2, kx_sl, kx_pre, kx_c2, kx_pl, kx_cmp, kx_oF, kx_eqN, kx_nil, kx_c1, kx_ft, kx_aI, kx_aL, kx_aR, kx_ln, Nat.reduceAdd, Option.toList, List.cons_append, List.nil_append, cf5_5, cf5_8, cf5_9, cf5_6, cf5_7])
            all_goals (repeat' apply And.intro)
            all_goals ((try clear hB hC); first | exact True.intro | with_reducible rfl | (simp only [cx_we, zc4, ze4, ze27, zc35, ze35, ze86, zc94, ze94, ↓reduceIte]; done) | (simp only [cx_we, zc4, ze4, ze27, zc35, ze35, ze86, zc94, ze94, ↓reduceIte]; exact ks_same hO))
      · intro zc35
        with_reducible first | have ze35 := Int32.not_le.mp zc35 | have ze35 := zc35
        refine hB bX5_weigh_38 _ _ _ _ _ _ _ kX5_weigh_38 ?_
        dsimp only [bX5_weigh_38, kx_wp, kx_step, kx_lI, kx_lL, kx_lA, kx_gl, kx_pI, kx_pL, kx_pR, kx_pA, kx_pV, kx_s1, kx_s2, kx_sl, kx_pre, kx_c2, kx_pl, kx_cmp, kx_oF, kx_eqN, kx_nil, kx_c1, kx_ft, kx_aI, kx_aL, kx_aR, kx_ln, Nat.reduceAdd, Option.toList, List.cons_append, List.nil_append, cf5_5, cf5_8, cf5_9, cf5_6, cf5_7]
        repeat (simp only [hO, pk_us, pk_un (show ¬ (9:Nat) = 6 by decide), pk_un (show ¬ (5:Nat) = 6 by decide), pk_un (show ¬ (5:Nat) = 7 by decide), pk_un (show ¬ (5:Nat) = 8 by decide), pk_un (show ¬ (5:Nat) = 9 by decide), cp5_9, cp5_6, cp5_7, cp5_8, cp5_5, ks_eq, ks_ss]; try dsimp only [kx_wp, kx_step, kx_lI, kx_lL, kx_lA, kx_gl, kx_pI, kx_pL, kx_pR, kx_pA, kx_pV, kx_s1, kx_s2, kx_sl, kx_pre, kx_c2, kx_pl, kx_cmp, kx_oF, kx_eqN, kx_nil, kx_c1, kx_ft, kx_aI, kx_aL, kx_aR, kx_ln, Nat.reduceAdd, Option.toList, List.cons_append, List.nil_append, cf5_5, cf5_8, cf5_9, cf5_6, cf5_7])
        repeat' apply And.intro
        all_goals try (first | with_reducible assumption | (with_reducible refine ck_nzI ?_; simp; done) | (with_reducible refine ck_nzL ?_; simp; done) | (with_reducible refine vp_in_nI ?_ ?_ <;> first | omega | decide) | (with_reducible refine Nat.le_of_ble_eq_true ?_; rfl) | omega)
        refine hC.2.1 47 _ _ _ _ _ _ _ _ _ _ _ _ _ _ _ _ _ lX5_47 (ct_J9_min_7cf53 l G) rfl rfl (Nat.le_of_ble_eq_true rfl) (by decide) (by decide) (by omega) (by omega) dX5_weigh_72 ?_
        refine hB bX5_weigh_75 _ _ _ _ _ _ _ kX5_weigh_75 ?_
        dsimp only [bX5_weigh_75, kx_wp, kx_step, kx_lI, kx_lL, kx_lA, kx_gl, kx_pI, kx_pL, kx_pR, kx_pA, kx_pV, kx_s1, kx_s2, kx_sl, kx_pre, kx_c2, kx_pl, kx_cmp, kx_oF, kx_eqN, kx_nil, kx_c1, kx_ft, kx_aI, kx_aL, kx_aR, kx_ln, Nat.reduceAdd, Option.toList, List.cons_append, List.nil_append, cf5_5, cf5_8, cf5_9, cf5_6, cf5_7]
        repeat (simp only [hO, pk_us, pk_un (show ¬ (9:Nat) = 6 by decide), pk_un (show ¬ (5:Nat) = 6 by decide), pk_un (show ¬ (5:Nat) = 7 by decide), pk_un (show ¬ (5:Nat) = 8 by decide), pk_un (show ¬ (5:Nat) = 9 by decide), cp5_9, cp5_6, cp5_7, cp5_8, cp5_5, ks_eq, ks_ss]; try dsimp only [kx_wp, kx_step, kx_lI, kx_lL, kx_lA, kx_gl, kx_pI, kx_pL, kx_pR, kx_pA, kx_pV, kx_s1, kx_s2, kx_sl, kx_pre, kx_c2, kx_pl, kx_cmp, kx_oF, kx_eqN, kx_nil, kx_c1, kx_ft, kx_aI, kx_aL, kx_aR, kx_ln, Nat.reduceAdd, Option.toList, List.cons_append, List.nil_append, cf5_5, cf5_8, cf5_9, cf5_6, cf5_7])
        repeat' apply And.intro
        all_goals try (first | with_reducible assumption | (with_reducible refine ck_nzI ?_; simp; done) | (with_reducible refine ck_nzL ?_; simp; done) | (with_reducible refine vp_in_nI ?_ ?_ <;> first | omega | decide) | (with_reducible refine Nat.le_of_ble_eq_true ?_; rfl) | omega)
        refine hB bX5_weigh_112 _ _ _ _ _ _ _ kX5_weigh_112 ?_
        dsimp only [bX5_weigh_112, kx_wp, kx_step, kx_lI, kx_lL, kx_lA, kx_gl, kx_pI, kx_pL, kx_pR, kx_pA, kx_pV, kx_s1, kx_s2, kx_sl, kx_pre, kx_c2, kx_pl, kx_cmp, kx_oF, kx_eqN, kx_nil, kx_c1, kx_ft, kx_aI, kx_aL, kx_aR, kx_ln, Nat.reduceAdd, Option.toList, List.cons_append, List.nil_append, cf5_5, cf5_8, cf5_9, cf5_6, cf5_7]
        repeat (simp only [hO, pk_us, pk_un (show ¬ (9:Nat) = 6 by decide), pk_un (show ¬ (5:Nat) = 6 by decide), pk_un (show ¬ (5:Nat) = 7 by decide), pk_un (show ¬ (5:Nat) = 8 by decide), pk_un (show ¬ (5:Nat) = 9 by decide), cp5_9, cp5_6, cp5_7, cp5_8, cp5_5, ks_eq, ks_ss]; try dsimp only [kx_wp, kx_step, kx_lI, kx_lL, kx_lA, kx_gl, kx_pI, kx_pL, kx_pR, kx_pA, kx_pV, kx_s1, kx_s2, kx_sl, kx_pre, kx_c2, kx_pl, kx_cmp, kx_oF, kx_eqN, kx_nil, kx_c1, kx_ft, kx_aI, kx_aL, kx_aR, kx_ln, Nat.reduceAdd, Option.toList, List.cons_append, List.nil_append, cf5_5, cf5_8, cf5_9, cf5_6, cf5_7])
        all_goals (repeat' apply And.intro)
        all_goals ((try clear hB hC); first | exact True.intro | with_reducible rfl | (simp only [cx_we, zc4, ze4, ze27, zc35, ze35, ↓reduceIte]; done) | (simp only [cx_we, zc4, ze4, ze27, zc35, ze35, ↓reduceIte]; exact ks_same hO))
  · intro zc4
    with_reducible first | have ze4 := Int32.not_le.mp zc4 | have ze4 := zc4
    refine hB bX5_weigh_7 _ _ _ _ _ _ _ kX5_weigh_7 ?_
    dsimp only [bX5_weigh_7, kx_wp, kx_step, kx_lI, kx_lL, kx_lA, kx_gl, kx_pI, kx_pL, kx_pR, kx_pA, kx_pV, kx_s1, kx_s2, kx_sl, kx_pre, kx_c2, kx_pl, kx_cmp, kx_oF, kx_eqN, kx_nil, kx_c1, kx_ft, kx_aI, kx_aL, kx_aR, kx_ln, Nat.reduceAdd, Option.toList, List.cons_append, List.nil_append, cf5_5, cf5_8, cf5_9, cf5_6, cf5_7]
    repeat (simp only [hO, pk_us, pk_un (show ¬ (9:Nat) = 6 by decide), pk_un (show ¬ (5:Nat) = 6 by decide), pk_un (show ¬ (5:Nat) = 7 by decide), pk_un (show ¬ (5:Nat) = 8 by decide), pk_un (show ¬ (5:Nat) = 9 by decide), cp5_9, cp5_6, cp5_7, cp5_8, cp5_5, ks_eq, ks_ss]; try dsimp only [kx_wp, kx_step, kx_lI, kx_lL, kx_lA, kx_gl, kx_pI, kx_pL, kx_pR, kx_pA, kx_pV, kx_s1, kx_s2, kx_sl, kx_pre, kx_c2, kx_pl, kx_cmp, kx_oF, kx_eqN, kx_nil, kx_c1, kx_ft, kx_aI, kx_aL, kx_aR, kx_ln, Nat.reduceAdd, Option.toList, List.cons_append, List.nil_append, cf5_5, cf5_8, cf5_9, cf5_6, cf5_7])
    repeat' apply And.intro
    all_goals try (first | with_reducible assumption | (with_reducible refine ck_nzI ?_; simp; done) | (with_reducible refine ck_nzL ?_; simp; done) | (with_reducible refine vp_in_nI ?_ ?_ <;> first | omega | decide) | (with_reducible refine Nat.le_of_ble_eq_true ?_; rfl) | omega)
    · intro zc12
      have ze12 := zc12
      refine hB bX5_weigh_23 _ _ _ _ _ _ _ kX5_weigh_23 ?_
      dsimp only [bX5_weigh_23, kx_wp, kx_step, kx_lI, kx_lL, kx_lA, kx_gl, kx_pI, kx_pL, kx_pR, kx_pA, kx_pV, kx_s1, kx_s2, kx_sl, kx_pre, kx_c2, kx_pl, kx_cmp, kx_oF, kx_eqN, kx_nil, kx_c1, kx_ft, kx_aI, kx_aL, kx_aR, kx_ln, Nat.reduceAdd, Option.toList, List.cons_append, List.nil_append, cf5_5, cf5_8, cf5_9, cf5_6, cf5_7]
      repeat (simp only [hO, pk_us, pk_un (show ¬ (9:Nat) = 6 by decide), pk_un (show ¬ (5:Nat) = 6 by decide), pk_un (show ¬ (5:Nat) = 7 by decide), pk_un (show ¬ (5:Nat) = 8 by decide), pk_un (show ¬ (5:Nat) = 9 by decide), cp5_9, cp5_6, cp5_7, cp5_8, cp5_5, ks_eq, ks_ss]; try dsimp only [kx_wp, kx_step, kx_lI, kx_lL, kx_lA, kx_gl, kx_pI, kx_pL, kx_pR, kx_pA, kx_pV, kx_s1, kx_s2, kx_sl, kx_pre, kx_c2, kx_pl, kx_cmp, kx_oF, kx_eqN, kx_nil, kx_c1, kx_ft, kx_aI, kx_aL, kx_aR, kx_ln, Nat.reduceAdd, Option.toList, List.cons_append, List.nil_append, cf5_5, cf5_8, cf5_9, cf5_6, cf5_7])
      repeat' apply And.intro
      all_goals try (first | with_reducible assumption | (with_reducible refine ck_nzI ?_; simp; done) | (with_reducible refine ck_nzL ?_; simp; done) | (with_reducible refine vp_in_nI ?_ ?_ <;> first | omega | decide) | (with_reducible refine Nat.le_of_ble_eq_true ?_; rfl) | omega)
      · intro zc27
        have ze27 := zc27
        refine hB bX5_weigh_38 _ _ _ _ _ _ _ kX5_weigh_38 ?_
        dsimp only [bX5_weigh_38, kx_wp, kx_step, kx_lI, kx_lL, kx_lA, kx_gl, kx_pI, kx_pL, kx_pR, kx_pA, kx_pV, kx_s1, kx_s2, kx_sl, kx_pre, kx_c2, kx_pl, kx_cmp, kx_oF, kx_eqN, kx_nil, kx_c1, kx_ft, kx_aI, kx_aL, kx_aR, kx_ln, Nat.reduceAdd, Option.toList, List.cons_append, List.nil_append, cf5_5, cf5_8, cf5_9, cf5_6, cf5_7]
        repeat (simp only [hO, pk_us, pk_un (show ¬ (9:Nat) = 6 by decide), pk_un (show ¬ (5:Nat) = 6 by decide), pk_un (show ¬ (5:Nat) = 7 by decide), pk_un (show ¬ (5:Nat) = 8 by decide), pk_un (show ¬ (5:Nat) = 9 by decide), cp5_9, cp5_6, cp5_7, cp5_8, cp5_5, ks_eq, ks_ss]; try dsimp only [kx_wp, kx_step, kx_lI, kx_lL, kx_lA, kx_gl, kx_pI, kx_pL, kx_pR, kx_pA, kx_pV, kx_s1, kx_s2, kx_sl, kx_pre, kx_c2, kx_pl, kx_cmp, kx_oF, kx_eqN, kx_nil, kx_c1, kx_ft, kx_aI, kx_aL, kx_aR, kx_ln, Nat.reduceAdd, Option.toList, List.cons_append, List.nil_append, cf5_5, cf5_8, cf5_9, cf5_6, cf5_7])
        repeat' apply And.intro
        all_goals try (first | with_reducible assumption | (with_reducible refine ck_nzI ?_; simp; done) | (with_reducible refine ck_nzL ?_; simp; done) | (with_reducible refine vp_in_nI ?_ ?_ <;> first | omega | decide) | (with_reducible refine Nat.le_of_ble_eq_true ?_; rfl) | omega)
        refine hC.2.1 47 _ _ _ _ _ _ _ _ _ _ _ _ _ _ _ _ _ lX5_47 (ct_J9_min_7cf53 l G) rfl rfl (Nat.le_of_ble_eq_true rfl) (by decide) (by decide) (by omega) (by omega) dX5_weigh_72 ?_
        refine hB bX5_weigh_75 _ _ _ _ _ _ _ kX5_weigh_75 ?_
        dsimp only [bX5_weigh_75, kx_wp, kx_step, kx_lI, kx_lL, kx_lA, kx_gl, kx_pI, kx_pL, kx_pR, kx_pA, kx_pV, kx_s1, kx_s2, kx_sl, kx_pre, kx_c2, kx_pl, kx_cmp, kx_oF, kx_eqN, kx_nil, kx_c1, kx_ft, kx_aI, kx_aL, kx_aR, kx_ln, Nat.reduceAdd, Option.toList, List.cons_append, List.nil_append, cf5_5, cf5_8, cf5_9, cf5_6, cf5_7]
        repeat (simp only [hO, pk_us, pk_un (show ¬ (9:Nat) = 6 by decide), pk_un (show ¬ (5:Nat) = 6 by decide), pk_un (show ¬ (5:Nat) = 7 by decide), pk_un (show ¬ (5:Nat) = 8 by decide), pk_un (show ¬ (5:Nat) = 9 by decide), cp5_9, cp5_6, cp5_7, cp5_8, cp5_5, ks_eq, ks_ss]; try dsimp only [kx_wp, kx_step, kx_lI, kx_lL, kx_lA, kx_gl, kx_pI, kx_pL, kx_pR, kx_pA, kx_pV, kx_s1, kx_s2, kx_sl, kx_pre, kx_c2, kx_pl, kx_cmp, kx_oF, kx_eqN, kx_nil, kx_c1, kx_ft, kx_aI, kx_aL, kx_aR, kx_ln, Nat.reduceAdd, Option.toList, List.cons_append, List.nil_append, cf5_5, cf5_8, cf5_9, cf5_6, cf5_7])
        repeat' apply And.intro
        all_goals try (first | with_reducible assumption | (with_reducible refine ck_nzI ?_; simp; done) | (with_reducible refine ck_nzL ?_; simp; done) | (with_reducible refine vp_in_nI ?_ ?_ <;> first | omega | decide) | (with_reducible refine Nat.le_of_ble_eq_true ?_; rfl) | omega)
        refine hB bX5_weigh_112 _ _ _ _ _ _ _ kX5_weigh_112 ?_
        dsimp only [bX5_weigh_112, kx_wp, kx_step, kx_lI, kx_lL, kx_lA, kx_gl, kx_pI, kx_pL, kx_pR, kx_pA, kx_pV, kx_s1, kx_s2, kx_sl, kx_pre, kx_c2, kx_pl, kx_cmp, kx_oF, kx_eqN, kx_nil, kx_c1, kx_ft, kx_aI, kx_aL, kx_aR, kx_ln, Nat.reduceAdd, Option.toList, List.cons_append, List.nil_append, cf5_5, cf5_8, cf5_9, cf5_6, cf5_7]
        repeat (simp only [hO, pk_us, pk_un (show ¬ (9:Nat) = 6 by decide), pk_un (show ¬ (5:Nat) = 6 by decide), pk_un (show ¬ (5:Nat) = 7 by decide), pk_un (show ¬ (5:Nat) = 8 by decide), pk_un (show ¬ (5:Nat) = 9 by decide), cp5_9, cp5_6, cp5_7, cp5_8, cp5_5, ks_eq, ks_ss]; try dsimp only [kx_wp, kx_step, kx_lI, kx_lL, kx_lA, kx_gl, kx_pI, kx_pL, kx_pR, kx_pA, kx_pV, kx_s1, kx_s2, kx_sl, kx_pre, kx_c2, kx_pl, kx_cmp, kx_oF, kx_eqN, kx_nil, kx_c1, kx_ft, kx_aI, kx_aL, kx_aR, kx_ln, Nat.reduceAdd, Option.toList, List.cons_append, List.nil_append, cf5_5, cf5_8, cf5_9, cf5_6, cf5_7])
        all_goals (repeat' apply And.intro)
        all_goals ((try clear hB hC); first | exact True.intro | with_reducible rfl | (simp only [cx_we, zc4, ze4, ze12, eq_true ze27, ↓reduceIte]; done) | (simp only [cx_we, zc4, ze4, ze12, eq_true ze27, ↓reduceIte]; exact ks_same hO))
      · intro zc27
        have ze27 := zc27
        refine hB bX5_weigh_30 _ _ _ _ _ _ _ kX5_weigh_30 ?_
        dsimp only [bX5_weigh_30, kx_wp, kx_step, kx_lI, kx_lL, kx_lA, kx_gl, kx_pI, kx_pL, kx_pR, kx_pA, kx_pV, kx_s1, kx_s2, kx_sl, kx_pre, kx_c2, kx_pl, kx_cmp, kx_oF, kx_eqN, kx_nil, kx_c1, kx_ft, kx_aI, kx_aL, kx_aR, kx_ln, Nat.reduceAdd, Option.toList, List.cons_append, List.nil_append, cf5_5, cf5_8, cf5_9, cf5_6, cf5_7]
        repeat (simp only [hO, pk_us, pk_un (show ¬ (9:Nat) = 6 by decide), pk_un (show ¬ (5:Nat) = 6 by decide), pk_un (show ¬ (5:Nat) = 7 by decide), pk_un (show ¬ (5:Nat) = 8 by decide), pk_un (show ¬ (5:Nat) = 9 by decide), cp5_9, cp5_6, cp5_7, cp5_8, cp5_5, ks_eq, ks_ss]; try dsimp only [kx_wp, kx_step, kx_lI, kx_lL, kx_lA, kx_gl, kx_pI, kx_pL, kx_pR, kx_pA, kx_pV, kx_s1, kx_s2, kx_sl, kx_pre, kx_c2, kx_pl, kx_cmp, kx_oF, kx_eqN, kx_nil, kx_c1, kx_ft, kx_aI, kx_aL, kx_aR, kx_ln, Nat.reduceAdd, Option.toList, List.cons_append, List.nil_append, cf5_5, cf5_8, cf5_9, cf5_6, cf5_7])
        repeat' apply And.intro
        all_goals try (first | with_reducible assumption | (with_reducible refine ck_nzI ?_; simp; done) | (with_reducible refine ck_nzL ?_; simp; done) | (with_reducible refine vp_in_nI ?_ ?_ <;> first | omega | decide) | (with_reducible refine Nat.le_of_ble_eq_true ?_; rfl) | omega)
        · intro zc35
          with_reducible first | have ze35 := Int32.not_lt.mpr zc35 | have ze35 := zc35
          refine hB bX5_weigh_81 _ _ _ _ _ _ _ kX5_weigh_81 ?_
          dsimp only [bX5_weigh_81, kx_wp, kx_step, kx_lI, kx_lL, kx_lA, kx_gl, kx_pI, kx_pL, kx_pR, kx_pA, kx_pV, kx_s1, kx_s2, kx_sl, kx_pre, kx_c2, kx_pl, kx_cmp, kx_oF, kx_eqN, kx_nil, kx_c1, kx_ft, kx_aI, kx_aL, kx_aR, kx_ln, Nat.reduceAdd, Option.toList, List.cons_append, List.nil_append, cf5_5, cf5_8, cf5_9, cf5_6, cf5_7]
          repeat (simp only [hO, pk_us, pk_un (show ¬ (9:Nat) = 6 by decide), pk_un (show ¬ (5:Nat) = 6 by decide), pk_un (show ¬ (5:Nat) = 7 by decide), pk_un (show ¬ (5:Nat) = 8 by decide), pk_un (show ¬ (5:Nat) = 9 by decide), cp5_9, cp5_6, cp5_7, cp5_8, cp5_5, ks_eq, ks_ss]; try dsimp only [kx_wp, kx_step, kx_lI, kx_lL, kx_lA, kx_gl, kx_pI, kx_pL, kx_pR, kx_pA, kx_pV, kx_s1, kx_s2, kx_sl, kx_pre, kx_c2, kx_pl, kx_cmp, kx_oF, kx_eqN, kx_nil, kx_c1, kx_ft, kx_aI, kx_aL, kx_aR, kx_ln, Nat.reduceAdd, Option.toList, List.cons_append, List.nil_append, cf5_5, cf5_8, cf5_9, cf5_6, cf5_7])
          repeat' apply And.intro
          all_goals try (first | with_reducible assumption | (with_reducible refine ck_nzI ?_; simp; done) | (with_reducible refine ck_nzL ?_; simp; done) | (with_reducible refine vp_in_nI ?_ ?_ <;> first | omega | decide) | (with_reducible refine Nat.le_of_ble_eq_true ?_; rfl) | omega)
          · intro zc86
            have ze86 := zc86
            refine hB bX5_weigh_97 _ _ _ _ _ _ _ kX5_weigh_97 ?_
            dsimp only [bX5_weigh_97, kx_wp, kx_step, kx_lI, kx_lL, kx_lA, kx_gl, kx_pI, kx_pL, kx_pR, kx_pA, kx_pV, kx_s1, kx_s2, kx_sl, kx_pre, kx_c2, kx_pl, kx_cmp, kx_oF, kx_eqN, kx_nil, kx_c1, kx_ft, kx_aI, kx_aL, kx_aR, kx_ln, Nat.reduceAdd, Option.toList, List.cons_append, List.nil_append, cf5_5, cf5_8, cf5_9, cf5_6, cf5_7]
            repeat (simp only [hO, pk_us, pk_un (show ¬ (9:Nat) = 6 by decide), pk_un (show ¬ (5:Nat) = 6 by decide), pk_un (show ¬ (5:Nat) = 7 by decide), pk_un (show ¬ (5:Nat) = 8 by decide), pk_un (show ¬ (5:Nat) = 9 by decide), cp5_9, cp5_6, cp5_7, cp5_8, cp5_5, ks_eq, ks_ss]; try dsimp only [kx_wp, kx_step, kx_lI, kx_lL, kx_lA, kx_gl, kx_pI, kx_pL, kx_pR, kx_pA, kx_pV, kx_s1, kx_s2, kx_sl, kx_pre, kx_c2, kx_pl, kx_cmp, kx_oF, kx_eqN, kx_nil, kx_c1, kx_ft, kx_aI, kx_aL, kx_aR, kx_ln, Nat.reduceAdd, Option.toList, List.cons_append, List.nil_append, cf5_5, cf5_8, cf5_9, cf5_6, cf5_7])
            repeat' apply And.intro
            all_goals try (first | with_reducible assumption | (with_reducible refine ck_nzI ?_; simp; done) | (with_reducible refine ck_nzL ?_; simp; done) | (with_reducible refine vp_in_nI ?_ ?_ <;> first | omega | decide) | (with_reducible refine Nat.le_of_ble_eq_true ?_; rfl) | omega)
            refine hB bX5_weigh_112 _ _ _ _ _ _ _ kX5_weigh_112 ?_
            dsimp only [bX5_weigh_112, kx_wp, kx_step, kx_lI, kx_lL, kx_lA, kx_gl, kx_pI, kx_pL, kx_pR, kx_pA, kx_pV, kx_s1, kx_s2, kx_sl, kx_pre, kx_c2, kx_pl, kx_cmp, kx_oF, kx_eqN, kx_nil, kx_c1, kx_ft, kx_aI, kx_aL, kx_aR, kx_ln, Nat.reduceAdd, Option.toList, List.cons_append, List.nil_append, cf5_5, cf5_8, cf5_9, cf5_6, cf5_7]
            repeat (simp only [hO, pk_us, pk_un (show ¬ (9:Nat) = 6 by decide), pk_un (show ¬ (5:Nat) = 6 by decide), pk_un (show ¬ (5:Nat) = 7 by decide), pk_un (show ¬ (5:Nat) = 8 by decide), pk_un (show ¬ (5:Nat) = 9 by decide), cp5_9, cp5_6, cp5_7, cp5_8, cp5_5, ks_eq, ks_ss]; try dsimp only [kx_wp, kx_step, kx_lI, kx_lL, kx_lA, kx_gl, kx_pI, kx_pL, kx_pR, kx_pA, kx_pV, kx_s1, kx_s2, kx_sl, kx_pre, kx_c2, kx_pl, kx_cmp, kx_oF, kx_eqN, kx_nil, kx_c1, kx_ft, kx_aI, kx_aL, kx_aR, kx_ln, Nat.reduceAdd, Option.toList, List.cons_append, List.nil_append, cf5_5, cf5_8, cf5_9, cf5_6, cf5_7])
            all_goals (repeat' apply And.intro)
            all_goals ((try clear hB hC); first | exact True.intro | with_reducible rfl | (simp only [cx_we, zc4, ze4, ze12, ze27, zc35, ze35, eq_true ze86, ↓reduceIte]; done) | (simp only [cx_we, zc4, ze4, ze12, ze27, zc35, ze35, eq_true ze86, ↓reduceIte]; exact ks_same hO))
          · intro zc86
            have ze86 := zc86
            refine hB bX5_weigh_89 _ _ _ _ _ _ _ kX5_weigh_89 ?_
            dsimp only [bX5_weigh_89, kx_wp, kx_step, kx_lI, kx_lL, kx_lA, kx_gl, kx_pI, kx_pL, kx_pR, kx_pA, kx_pV, kx_s1, kx_s2, kx_sl, kx_pre, kx_c2, kx_pl, kx_cmp, kx_oF, kx_eqN, kx_nil, kx_c1, kx_ft, kx_aI, kx_aL, kx_aR, kx_ln, Nat.reduceAdd, Option.toList, List.cons_append, List.nil_append, cf5_5, cf5_8, cf5_9, cf5_6, cf5_7]
            repeat (simp only [hO, pk_us, pk_un (show ¬ (9:Nat) = 6 by decide), pk_un (show ¬ (5:Nat) = 6 by decide), pk_un (show ¬ (5:Nat) = 7 by decide), pk_un (show ¬ (5:Nat) = 8 by decide), pk_un (show ¬ (5:Nat) = 9 by decide), cp5_9, cp5_6, cp5_7, cp5_8, cp5_5, ks_eq, ks_ss]; try dsimp only [kx_wp, kx_step, kx_lI, kx_lL, kx_lA, kx_gl, kx_pI, kx_pL, kx_pR, kx_pA, kx_pV, kx_s1, kx_s2, kx_sl, kx_pre, kx_c2, kx_pl, kx_cmp, kx_oF, kx_eqN, kx_nil, kx_c1, kx_ft, kx_aI, kx_aL, kx_aR, kx_ln, Nat.reduceAdd, Option.toList, List.cons_append, List.nil_append, cf5_5, cf5_8, cf5_9, cf5_6, cf5_7])
            repeat' apply And.intro
            all_goals try (first | with_reducible assumption | (with_reducible refine ck_nzI ?_; simp; done) | (with_reducible refine ck_nzL ?_; simp; done) | (with_reducible refine vp_in_nI ?_ ?_ <;> first | omega | decide) | (with_reducible refine Nat.le_of_ble_eq_true ?_; rfl) | omega)
            · intro zc94
              with_reducible first | have ze94 := Int32.not_le.mpr zc94 | have ze94 := zc94
              refine hB bX5_weigh_112 _ _ _ _ _ _ _ kX5_weigh_112 ?_
              dsimp only [bX5_weigh_112, kx_wp, kx_step, kx_lI, kx_lL, kx_lA, kx_gl, kx_pI, kx_pL, kx_pR, kx_pA, kx_pV, kx_s1, kx_s2, kx_sl, kx_pre, kx_c2, kx_pl, kx_cmp, kx_oF, kx_eqN, kx_nil, kx_c1, kx_ft, kx_aI, kx_aL, kx_aR, kx_ln, Nat.reduceAdd, Option.toList, List.cons_append, List.nil_append, cf5_5, cf5_8, cf5_9, cf5_6, cf5_7]
              repeat (simp only [hO, pk_us, pk_un (show ¬ (9:Nat) = 6 by decide), pk_un (show ¬ (5:Nat) = 6 by decide), pk_un (show ¬ (5:Nat) = 7 by decide), pk_un (show ¬ (5:Nat) = 8 by decide), pk_un (show ¬ (5:Nat) = 9 by decide), cp5_9, cp5_6, cp5_7, cp5_8, cp5_5, ks_eq, ks_ss]; try dsimp only [kx_wp, kx_step, kx_lI, kx_lL, kx_lA, kx_gl, kx_pI, kx_pL, kx_pR, kx_pA, kx_pV, kx_s1, kx_s2, kx_sl, kx_pre, kx_c2, kx_pl, kx_cmp, kx_oF, kx_eqN, kx_nil, kx_c1, kx_ft, kx_aI, kx_aL, kx_aR, kx_ln, Nat.reduceAdd, Option.toList, List.cons_append, List.nil_append, cf5_5, cf5_8, cf5_9, cf5_6, cf5_7])
              all_goals (repeat' apply And.intro)
              all_goals ((try clear hB hC); first | exact True.intro | with_reducible rfl | (simp only [cx_we, zc4, ze4, ze12, ze27, zc35, ze35, ze86, zc94, ze94, ↓reduceIte]; done) | (simp only [cx_we, zc4, ze4, ze12, ze27, zc35, ze35, ze86, zc94, ze94, ↓reduceIte]; exact ks_same hO))
            · intro zc94
              with_reducible first | have ze94 := Int32.not_lt.mp zc94 | have ze94 := zc94
              refine hB bX5_weigh_97 _ _ _ _ _ _ _ kX5_weigh_97 ?_
              dsimp only [bX5_weigh_97, kx_wp, kx_step, kx_lI, kx_lL, kx_lA, kx_gl, kx_pI, kx_pL, kx_pR, kx_pA, kx_pV, kx_s1, kx_s2, kx_sl, kx_pre, kx_c2, kx_pl, kx_cmp, kx_oF, kx_eqN, kx_nil, kx_c1, kx_ft, kx_aI, kx_aL, kx_aR, kx_ln, Nat.reduceAdd, Option.toList, List.cons_append, List.nil_append, cf5_5, cf5_8, cf5_9, cf5_6, cf5_7]
              repeat (simp only [hO, pk_us, pk_un (show ¬ (9:Nat) = 6 by decide), pk_un (show ¬ (5:Nat) = 6 by decide), pk_un (show ¬ (5:Nat) = 7 by decide), pk_un (show ¬ (5:Nat) = 8 by decide), pk_un (show ¬ (5:Nat) = 9 by decide), cp5_9, cp5_6, cp5_7, cp5_8, cp5_5, ks_eq, ks_ss]; try dsimp only [kx_wp, kx_step, kx_lI, kx_lL, kx_lA, kx_gl, kx_pI, kx_pL, kx_pR, kx_pA, kx_pV, kx_s1, kx_s2, kx_sl, kx_pre, kx_c2, kx_pl, kx_cmp, kx_oF, kx_eqN, kx_nil, kx_c1, kx_ft, kx_aI, kx_aL, kx_aR, kx_ln, Nat.reduceAdd, Option.toList, List.cons_append, List.nil_append, cf5_5, cf5_8, cf5_9, cf5_6, cf5_7])
              repeat' apply And.intro
              all_goals try (first | with_reducible assumption | (with_reducible refine ck_nzI ?_; simp; done) | (with_reducible refine ck_nzL ?_; simp; done) | (with_reducible refine vp_in_nI ?_ ?_ <;> first | omega | decide) | (with_reducible refine Nat.le_of_ble_eq_true ?_; rfl) | omega)
              refine hB bX5_weigh_112 _ _ _ _ _ _ _ kX5_weigh_112 ?_
              dsimp only [bX5_weigh_112, kx_wp, kx_step, kx_lI, kx_lL, kx_lA, kx_gl, kx_pI, kx_pL, kx_pR, kx_pA, kx_pV, kx_s1, kx_s2, kx_sl, kx_pre, kx_c2, kx_pl, kx_cmp, kx_oF, kx_eqN, kx_nil, kx_c1, kx_ft, kx_aI, kx_aL, kx_aR, kx_ln, Nat.reduceAdd, Option.toList, List.cons_append, List.nil_append, cf5_5, cf5_8, cf5_9, cf5_6, cf5_7]
              repeat (simp only [hO, pk_us, pk_un (show ¬ (9:Nat) = 6 by decide), pk_un (show ¬ (5:Nat) = 6 by decide), pk_un (show ¬ (5:Nat) = 7 by decide), pk_un (show ¬ (5:Nat) = 8 by decide), pk_un (show ¬ (5:Nat) = 9 by decide), cp5_9, cp5_6, cp5_7, cp5_8, cp5_5, ks_eq, ks_ss]; try dsimp only [kx_wp, kx_step, kx_lI, kx_lL, kx_lA, kx_gl, kx_pI, kx_pL, kx_pR, kx_pA, kx_pV, kx_s1, kx_s2, kx_sl, kx_pre, kx_c2, kx_pl, kx_cmp, kx_oF, kx_eqN, kx_nil, kx_c1, kx_ft, kx_aI, kx_aL, kx_aR, kx_ln, Nat.reduceAdd, Option.toList, List.cons_append, List.nil_append, cf5_5, cf5_8, cf5_9, cf5_6, cf5_7])
              all_goals (repeat' apply And.intro)
              all_goals ((try clear hB hC); first | exact True.intro | with_reducible rfl | (simp only [cx_we, zc4, ze4, ze12, ze27, zc35, ze35, ze86, zc94, ze94, ↓reduceIte]; done) | (simp only [cx_we, zc4, ze4, ze12, ze27, zc35, ze35, ze86, zc94, ze94, ↓reduceIte]; exact ks_same hO))
        · intro zc35
          with_reducible first | have ze35 := Int32.not_le.mp zc35 | have ze35 := zc35
          refine hB bX5_weigh_38 _ _ _ _ _ _ _ kX5_weigh_38 ?_
          dsimp only [bX5_weigh_38, kx_wp, kx_step, kx_lI, kx_lL, kx_lA, kx_gl, kx_pI, kx_pL, kx_pR, kx_pA, kx_pV, kx_s1, kx_s2, kx_sl, kx_pre, kx_c2, kx_pl, kx_cmp, kx_oF, kx_eqN, kx_nil, kx_c1, kx_ft, kx_aI, kx_aL, kx_aR, kx_ln, Nat.reduceAdd, Option.toList, List.cons_append, List.nil_append, cf5_5, cf5_8, cf5_9, cf5_6, cf5_7]
          repeat (simp only [hO, pk_us, pk_un (show ¬ (9:Nat) = 6 by decide), pk_un (show ¬ (5:Nat) = 6 by decide), pk_un (show ¬ (5:Nat) = 7 by decide), pk_un (show ¬ (5:Nat) = 8 by decide), pk_un (show ¬ (5:Nat) = 9 by decide), cp5_9, cp5_6, cp5_7, cp5_8, cp5_5, ks_eq, ks_ss]; try dsimp only [kx_wp, kx_step, kx_lI, kx_lL, kx_lA, kx_gl, kx_pI, kx_pL, kx_pR, kx_pA, kx_pV, kx_s1, kx_s2, kx_sl, kx_pre, kx_c2, kx_pl, kx_cmp, kx_oF, kx_eqN, kx_nil, kx_c1, kx_ft, kx_aI, kx_aL, kx_aR, kx_ln, Nat.reduceAdd, Option.toList, List.cons_append, List.nil_append, cf5_5, cf5_8, cf5_9, cf5_6, cf5_7])
          repeat' apply And.intro
          all_goals try (first | with_reducible assumption | (with_reducible refine ck_nzI ?_; simp; done) | (with_reducible refine ck_nzL ?_; simp; done) | (with_reducible refine vp_in_nI ?_ ?_ <;> first | omega | decide) | (with_reducible refine Nat.le_of_ble_eq_true ?_; rfl) | omega)
          refine hC.2.1 47 _ _ _ _ _ _ _ _ _ _ _ _ _ _ _ _ _ lX5_47 (ct_J9_min_7cf53 l G) rfl rfl (Nat.le_of_ble_eq_true rfl) (by decide) (by decide) (by omega) (by omega) dX5_weigh_72 ?_
          refine hB bX5_weigh_75 _ _ _ _ _ _ _ kX5_weigh_75 ?_
          dsimp only [bX5_weigh_75, kx_wp, kx_step, kx_lI, kx_lL, kx_lA, kx_gl, kx_pI, kx_pL, kx_pR, kx_pA, kx_pV, kx_s1, kx_s2, kx_sl, kx_pre, kx_c2, kx_pl, kx_cmp, kx_oF, kx_eqN, kx_nil, kx_c1, kx_ft, kx_aI, kx_aL, kx_aR, kx_ln, Nat.reduceAdd, Option.toList, List.cons_append, List.nil_append, cf5_5, cf5_8, cf5_9, cf5_6, cf5_7]
          repeat (simp only [hO, pk_us, pk_un (show ¬ (9:Nat) = 6 by decide), pk_un (show ¬ (5:Nat) = 6 by decide), pk_un (show ¬ (5:Nat) = 7 by decide), pk_un (show ¬ (5:Nat) = 8 by decide), pk_un (show ¬ (5:Nat) = 9 by decide), cp5_9, cp5_6, cp5_7, cp5_8, cp5_5, ks_eq, ks_ss]; try dsimp only [kx_wp, kx_step, kx_lI, kx_lL, kx_lA, kx_gl, kx_pI, kx_pL, kx_pR, kx_pA, kx_pV, kx_s1, kx_s2, kx_sl, kx_pre, kx_c2, kx_pl, kx_cmp, kx_oF, kx_eqN, kx_nil, kx_c1, kx_ft, kx_aI, kx_aL, kx_aR, kx_ln, Nat.reduceAdd, Option.toList, List.cons_append, List.nil_append, cf5_5, cf5_8, cf5_9, cf5_6, cf5_7])
          repeat' apply And.intro
          all_goals try (first | with_reducible assumption | (with_reducible refine ck_nzI ?_; simp; done) | (with_reducible refine ck_nzL ?_; simp; done) | (with_reducible refine vp_in_nI ?_ ?_ <;> first | omega | decide) | (with_reducible refine Nat.le_of_ble_eq_true ?_; rfl) | omega)
          refine hB bX5_weigh_112 _ _ _ _ _ _ _ kX5_weigh_112 ?_
          dsimp only [bX5_weigh_112, kx_wp, kx_step, kx_lI, kx_lL, kx_lA, kx_gl, kx_pI, kx_pL, kx_pR, kx_pA, kx_pV, kx_s1, kx_s2, kx_sl, kx_pre, kx_c2, kx_pl, kx_cmp, kx_oF, kx_eqN, kx_nil, kx_c1, kx_ft, kx_aI, kx_aL, kx_aR, kx_ln, Nat.reduceAdd, Option.toList, List.cons_append, List.nil_append, cf5_5, cf5_8, cf5_9, cf5_6, cf5_7]
          repeat (simp only [hO, pk_us, pk_un (show ¬ (9:Nat) = 6 by decide), pk_un (show ¬ (5:Nat) = 6 by decide), pk_un (show ¬ (5:Nat) = 7 by decide), pk_un (show ¬ (5:Nat) = 8 by decide), pk_un (show ¬ (5:Nat) = 9 by decide), cp5_9, cp5_6, cp5_7, cp5_8, cp5_5, ks_eq, ks_ss]; try dsimp only [kx_wp, kx_step, kx_lI, kx_lL, kx_lA, kx_gl, kx_pI, kx_pL, kx_pR, kx_pA, kx_pV, kx_s1, kx_s2, kx_sl, kx_pre, kx_c2, kx_pl, kx_cmp, kx_oF, kx_eqN, kx_nil, kx_c1, kx_ft, kx_aI, kx_aL, kx_aR, kx_ln, Nat.reduceAdd, Option.toList, List.cons_append, List.nil_append, cf5_5, cf5_8, cf5_9, cf5_6, cf5_7])
          all_goals (repeat' apply And.intro)
          all_goals ((try clear hB hC); first | exact True.intro | with_reducible rfl | (simp only [cx_we, zc4, ze4, ze12, ze27, zc35, ze35, ↓reduceIte]; done) | (simp only [cx_we, zc4, ze4, ze12, ze27, zc35, ze35, ↓reduceIte]; exact ks_same hO))
    · intro zc12
      with_reducible first | have ze12 := Decidable.not_not.mp zc12 | have ze12 := zc12
      refine hB bX5_weigh_15 _ _ _ _ _ _ _ kX5_weigh_15 ?_
      dsimp only [bX5_weigh_15, kx_wp, kx_step, kx_lI, kx_lL, kx_lA, kx_gl, kx_pI, kx_pL, kx_pR, kx_pA, kx_pV, kx_s1, kx_s2, kx_sl, kx_pre, kx_c2, kx_pl, kx_cmp, kx_oF, kx_eqN, kx_nil, kx_c1, kx_ft, kx_aI, kx_aL, kx_aR, kx_ln, Nat.reduceAdd, Option.toList, List.cons_append, List.nil_append, cf5_5, cf5_8, cf5_9, cf5_6, cf5_7]
      repeat (simp only [hO, pk_us, pk_un (show ¬ (9:Nat) = 6 by decide), pk_un (show ¬ (5:Nat) = 6 by decide), pk_un (show ¬ (5:Nat) = 7 by decide), pk_un (show ¬ (5:Nat) = 8 by decide), pk_un (show ¬ (5:Nat) = 9 by decide), cp5_9, cp5_6, cp5_7, cp5_8, cp5_5, ks_eq, ks_ss]; try dsimp only [kx_wp, kx_step, kx_lI, kx_lL, kx_lA, kx_gl, kx_pI, kx_pL, kx_pR, kx_pA, kx_pV, kx_s1, kx_s2, kx_sl, kx_pre, kx_c2, kx_pl, kx_cmp, kx_oF, kx_eqN, kx_nil, kx_c1, kx_ft, kx_aI, kx_aL, kx_aR, kx_ln, Nat.reduceAdd, Option.toList, List.cons_append, List.nil_append, cf5_5, cf5_8, cf5_9, cf5_6, cf5_7])
      repeat' apply And.intro
      all_goals try (first | with_reducible assumption | (with_reducible refine ck_nzI ?_; simp; done) | (with_reducible refine ck_nzL ?_; simp; done) | (with_reducible refine vp_in_nI ?_ ?_ <;> first | omega | decide) | (with_reducible refine Nat.le_of_ble_eq_true ?_; rfl) | omega)
      refine hB bX5_weigh_112 _ _ _ _ _ _ _ kX5_weigh_112 ?_
      dsimp only [bX5_weigh_112, kx_wp, kx_step, kx_lI, kx_lL, kx_lA, kx_gl, kx_pI, kx_pL, kx_pR, kx_pA, kx_pV, kx_s1, kx_s2, kx_sl, kx_pre, kx_c2, kx_pl, kx_cmp, kx_oF, kx_eqN, kx_nil, kx_c1, kx_ft, kx_aI, kx_aL, kx_aR, kx_ln, Nat.reduceAdd, Option.toList, List.cons_append, List.nil_append, cf5_5, cf5_8, cf5_9, cf5_6, cf5_7]
      repeat (simp only [hO, pk_us, pk_un (show ¬ (9:Nat) = 6 by decide), pk_un (show ¬ (5:Nat) = 6 by decide), pk_un (show ¬ (5:Nat) = 7 by decide), pk_un (show ¬ (5:Nat) = 8 by decide), pk_un (show ¬ (5:Nat) = 9 by decide), cp5_9, cp5_6, cp5_7, cp5_8, cp5_5, ks_eq, ks_ss]; try dsimp only [kx_wp, kx_step, kx_lI, kx_lL, kx_lA, kx_gl, kx_pI, kx_pL, kx_pR, kx_pA, kx_pV, kx_s1, kx_s2, kx_sl, kx_pre, kx_c2, kx_pl, kx_cmp, kx_oF, kx_eqN, kx_nil, kx_c1, kx_ft, kx_aI, kx_aL, kx_aR, kx_ln, Nat.reduceAdd, Option.toList, List.cons_append, List.nil_append, cf5_5, cf5_8, cf5_9, cf5_6, cf5_7])
      all_goals (repeat' apply And.intro)
      all_goals ((try clear hB hC); first | exact True.intro | with_reducible rfl | (simp only [cx_we, zc4, ze4, eq_true ze12, ↓reduceIte]; done) | (simp only [cx_we, zc4, ze4, eq_true ze12, ↓reduceIte]; exact ks_same hO))

def cx_rc (F rc rm re rt : Nat → Int32) (c kn : Int32) : Nat → Nat → Int32
  | 0 => upd F 5 0
  | k + 1 => if rc k = c then (if rt k ≤ kn then cx_we (cx_rc F rc rm re rt c kn k) (rm k) (re k) else cx_rc F rc rm re rt c kn k) else cx_rc F rc rm re rt c kn k
theorem cx_we_4 {F : Nat → Int32} {m e : Int32} : cx_we F m e 4 = F 4 := by
  unfold cx_we
  repeat' split
  all_goals rfl
theorem cx_rc_4 {F rc rm re rt : Nat → Int32} {c kn : Int32} (k : Nat) : cx_rc F rc rm re rt c kn k 4 = F 4 := by
  induction k with
  | zero => rfl
  | succ k ih =>
    rw [cx_rc]
    repeat' split
    all_goals first | exact ih | (rw [cx_we_4]; exact ih)
def bX5_recall_0 : List kx_O := [(.aload_n 0, 0, 0, 0, .null), (.iconst 0, 0, 0, 0, .int 0), (.putfield 28, 5, 5, 0, .null), (.iconst 0, 0, 0, 0, .int 0), (.istore_n 3, 3, 0, 0, .null)]
theorem kX5_recall_0 : kx_oks kxL_X5 false cX5_recall 0 bX5_recall_0 = true := by decide +kernel
def bX5_recall_7 : List kx_O := [(.iload_n 3, 3, 0, 0, .null), (.aload_n 0, 0, 0, 0, .null), (.getfield 24, 5, 4, 0, .null), (.if_icmp .ge 51, 63, 0, 0, .null)]
theorem kX5_recall_7 : kx_oks kxL_X5 false cX5_recall 7 bX5_recall_7 = true := by decide +kernel
def bX5_recall_15 : List kx_O := [(.iload_n 3, 3, 0, 0, .null), (.bipush 100, 0, 0, 0, .int 100), (.if_icmp .ge 45, 63, 0, 0, .null)]
theorem kX5_recall_15 : kx_oks kxL_X5 false cX5_recall 15 bX5_recall_15 = true := by decide +kernel
def bX5_recall_21 : List kx_O := [(.aload_n 0, 0, 0, 0, .null), (.getfield 11, 5, 0, 0, .null), (.iload_n 3, 3, 0, 0, .null), (.iaload, 0, 0, 0, .null), (.iload_n 1, 1, 0, 0, .null), (.if_icmp .ne 29, 57, 0, 0, .null)]
theorem kX5_recall_21 : kx_oks kxL_X5 false cX5_recall 21 bX5_recall_21 = true := by decide +kernel
def bX5_recall_31 : List kx_O := [(.aload_n 0, 0, 0, 0, .null), (.getfield 21, 5, 3, 0, .null), (.iload_n 3, 3, 0, 0, .null), (.iaload, 0, 0, 0, .null), (.iload_n 2, 2, 0, 0, .null), (.if_icmp .gt 19, 57, 0, 0, .null)]
theorem kX5_recall_31 : kx_oks kxL_X5 false cX5_recall 31 bX5_recall_31 = true := by decide +kernel
def bX5_recall_41 : List kx_O := [(.aload_n 0, 0, 0, 0, .null), (.aload_n 0, 0, 0, 0, .null), (.getfield 15, 5, 1, 0, .null), (.iload_n 3, 3, 0, 0, .null), (.iaload, 0, 0, 0, .null), (.aload_n 0, 0, 0, 0, .null), (.getfield 18, 5, 2, 0, .null), (.iload_n 3, 3, 0, 0, .null), (.iaload, 0, 0, 0, .null)]
theorem kX5_recall_41 : kx_oks kxL_X5 false cX5_recall 41 bX5_recall_41 = true := by decide +kernel
def bX5_recall_57 : List kx_O := [(.iinc 3 1, 3, 0, 0, .int 1), (.goto (-53), 7, 0, 0, .null)]
theorem kX5_recall_57 : kx_oks kxL_X5 false cX5_recall 57 bX5_recall_57 = true := by decide +kernel
def bX5_recall_63 : List kx_O := [(.return_, 0, 0, 0, .null)]
theorem kX5_recall_63 : kx_oks kxL_X5 false cX5_recall 63 bX5_recall_63 = true := by decide +kernel
theorem dX5_recall_54 : decode cX5_recall 54 = .ok (.invokevirtual 43, 3) := by decide +kernel
set_option maxRecDepth 100000 in
set_option maxHeartbeats 4000000 in
theorem ct_X5_recall (l : Launch) (G : kx_G) {P : kx_P} {sz : Nat} {F rc rm re rt : Nat → Int32} (hO : P 84 = kO 5 (kf cr5 F)) (h85 : P 85 = kI 0 100 rc) (h86 : P 86 = kI 0 100 rm) (h87 : P 87 = kI 0 100 re) (h88 : P 88 = kI 0 100 rt) {c kn : Int32} {n : Nat} (h3 : F 4 = nI n) (hn : n ≤ 100)  : kx_M l G sX5_recall 3 0 0 [.ref 84, .int (c), .int (kn)] P sz none (kx_set P 84 (kO 5 (kf cr5 (cx_rc F rc rm re rt c kn n)))) sz := by
  refine kx_mk kx_tab kxLok_X5 (ini := false) [some (.ref 84), some (.int (c)), some (.int (kn)), none] ⟨by decide, rfl, by decide, by decide⟩ (rfl) rfl rfl (fun g hB hC => ?_)
  have loop7 : ∀ (n9 : Nat) (k : Nat), k + n9 = n → g 7 [some (.ref 84), some (.int c), some (.int kn), some (.int (nI k))] [] (kx_set P 84 (kO 5 (kf cr5 (cx_rc F rc rm re rt c kn k)))) sz 0 0 := by
    intro n9
    induction n9 with
    | zero =>
      intro k hk
      obtain rfl : k = n := by omega
      refine hB bX5_recall_7 _ _ _ _ _ _ _ kX5_recall_7 ?_
      dsimp only [bX5_recall_7, kx_wp, kx_step, kx_lI, kx_lL, kx_lA, kx_gl, kx_pI, kx_pL, kx_pR, kx_pA, kx_pV, kx_s1, kx_s2, kx_sl, kx_pre, kx_c2, kx_pl, kx_cmp, kx_oF, kx_eqN, kx_nil, kx_c1, kx_ft, kx_aI, kx_aL, kx_aR, kx_ln, Nat.reduceAdd, Option.toList, List.cons_append, List.nil_append, cf5_5, cf5_4, cf5_0, cf5_3, cf5_1, cf5_2]
      repeat (simp only [hO, h85, h86, h87, h88, h3, nI_1, cx_rc_4, ks_ne (show ¬ (84 : Nat) = 85 by decide), ks_ne (show ¬ (84 : Nat) = 86 by decide), ks_ne (show ¬ (84 : Nat) = 87 by decide), ks_ne (show ¬ (84 : Nat) = 88 by decide), ks_ne (show ¬ (85 : Nat) = 84 by decide), ks_ne (show ¬ (85 : Nat) = 86 by decide), ks_ne (show ¬ (85 : Nat) = 87 by decide), ks_ne (show ¬ (85 : Nat) = 88 by decide), ks_ne (show ¬ (86 : Nat) = 84 by decide), ks_ne (show ¬ (86 : Nat) = 85 by decide), ks_ne (show ¬ (86 : Nat) = 87 by decide), ks_ne (show ¬ (86 : Nat) = 88 by decide), ks_ne (show ¬ (87 : Nat) = 84 by decide), ks_ne (show ¬ (87 : Nat) = 85 by decide), ks_ne (show ¬ (87 : Nat) = 86 by decide), ks_ne (show ¬ (87 : Nat) = 88 by decide), ks_ne (show ¬ (88 : Nat) = 84 by decide), ks_ne (show ¬ (88 : Nat) = 85 by decide), ks_ne (show ¬ (88 : Nat) = 86 by decide), ks_ne (show ¬ (88 : Nat) = 87 by decide), cp5_5, ks_eq, ks_ss, nI_clamp (show k < 2 ^ 31 by omega)]; try dsimp only [kx_wp, kx_step, kx_lI, kx_lL, kx_lA, kx_gl, kx_pI, kx_pL, kx_pR, kx_pA, kx_pV, kx_s1, kx_s2, kx_sl, kx_pre, kx_c2, kx_pl, kx_cmp, kx_oF, kx_eqN, kx_nil, kx_c1, kx_ft, kx_aI, kx_aL, kx_aR, kx_ln, Nat.reduceAdd, Option.toList, List.cons_append, List.nil_append, cf5_5, cf5_4, cf5_0, cf5_3, cf5_1, cf5_2])
      repeat' apply And.intro
      all_goals try (first | with_reducible assumption | (with_reducible refine ck_nzI ?_; simp; done) | (with_reducible refine ck_nzL ?_; simp; done) | (with_reducible refine vp_in_nI ?_ ?_ <;> first | omega | decide) | (with_reducible refine Nat.le_of_ble_eq_true ?_; rfl) | omega)
      · intro zc12
        with_reducible first | have ze12 := Int32.not_lt.mpr zc12 | have ze12 := zc12
        refine hB bX5_recall_63 _ _ _ _ _ _ _ kX5_recall_63 ?_
        dsimp only [bX5_recall_63, kx_wp, kx_step, kx_lI, kx_lL, kx_lA, kx_gl, kx_pI, kx_pL, kx_pR, kx_pA, kx_pV, kx_s1, kx_s2, kx_sl, kx_pre, kx_c2, kx_pl, kx_cmp, kx_oF, kx_eqN, kx_nil, kx_c1, kx_ft, kx_aI, kx_aL, kx_aR, kx_ln, Nat.reduceAdd, Option.toList, List.cons_append, List.nil_append, cf5_5, cf5_4, cf5_0, cf5_3, cf5_1, cf5_2]
        repeat (simp only [hO, h85, h86, h87, h88, h3, nI_1, cx_rc_4, ks_ne (show ¬ (84 : Nat) = 85 by decide), ks_ne (show ¬ (84 : Nat) = 86 by decide), ks_ne (show ¬ (84 : Nat) = 87 by decide), ks_ne (show ¬ (84 : Nat) = 88 by decide), ks_ne (show ¬ (85 : Nat) = 84 by decide), ks_ne (show ¬ (85 : Nat) = 86 by decide), ks_ne (show ¬ (85 : Nat) = 87 by decide), ks_ne (show ¬ (85 : Nat) = 88 by decide), ks_ne (show ¬ (86 : Nat) = 84 by decide), ks_ne (show ¬ (86 : Nat) = 85 by decide), ks_ne (show ¬ (86 : Nat) = 87 by decide), ks_ne (show ¬ (86 : Nat) = 88 by decide), ks_ne (show ¬ (87 : Nat) = 84 by decide), ks_ne (show ¬ (87 : Nat) = 85 by decide), ks_ne (show ¬ (87 : Nat) = 86 by decide), ks_ne (show ¬ (87 : Nat) = 88 by decide), ks_ne (show ¬ (88 : Nat) = 84 by decide), ks_ne (show ¬ (88 : Nat) = 85 by decide), ks_ne (show ¬ (88 : Nat) = 86 by decide), ks_ne (show ¬ (88 : Nat) = 87 by decide), cp5_5, ks_eq, ks_ss, nI_clamp (show k < 2 ^ 31 by omega)]; try dsimp only [kx_wp, kx_step, kx_lI, kx_lL, kx_lA, kx_gl, kx_pI, kx_pL, kx_pR, kx_pA, kx_pV, kx_s1, kx_s2, kx_sl, kx_pre, kx_c2, kx_pl, kx_cmp, kx_oF, kx_eqN, kx_nil, kx_c1, kx_ft, kx_aI, kx_aL, kx_aR, kx_ln, Nat.reduceAdd, Option.toList, List.cons_append, List.nil_append, cf5_5, cf5_4, cf5_0, cf5_3, cf5_1, cf5_2])
        all_goals (repeat' apply And.intro)
        all_goals ((try clear hB hC); first | exact True.intro | with_reducible rfl | with_reducible assumption | (with_reducible refine vp_in_nI ?_ ?_ <;> first | omega | decide) | exact Nat.le_of_ble_eq_true rfl | (with_reducible refine ck_nzI ?_; simp; done) | (with_reducible refine ck_nzL ?_; simp; done) | (simp only [pk_us, pk_uLs, zc12, ze12, ↓reduceIte, not_true_eq_false, not_false_eq_true]; done) | (simp only [zc12, ze12, ↓reduceIte, not_true_eq_false, not_false_eq_true]; with_reducible rfl) | skip)
      · intro zc12
        first | exact absurd rfl zc12 | exact absurd zc12 (by decide) | exact absurd (by decide) zc12 | (exfalso; first | exact absurd ((nI_leI (a := n) (b := k) (by omega) (by omega)).mp zc12) (by omega) | exact absurd ((nI_leI (a := k) (b := k) (by omega) (by omega)).mpr (by omega)) zc12 | exact absurd ((nI_leI (a := 100) (b := k) (by omega) (by omega)).mp zc18) (by omega)) | (exfalso; simp_all; done)
    | succ n9 ih =>
      intro k hk
      refine hB bX5_recall_7 _ _ _ _ _ _ _ kX5_recall_7 ?_
      dsimp only [bX5_recall_7, kx_wp, kx_step, kx_lI, kx_lL, kx_lA, kx_gl, kx_pI, kx_pL, kx_pR, kx_pA, kx_pV, kx_s1, kx_s2, kx_sl, kx_pre, kx_c2, kx_pl, kx_cmp, kx_oF, kx_eqN, kx_nil, kx_c1, kx_ft, kx_aI, kx_aL, kx_aR, kx_ln, Nat.reduceAdd, Option.toList, List.cons_append, List.nil_append, cf5_5, cf5_4, cf5_0, cf5_3, cf5_1, cf5_2]
      repeat (simp only [hO, h85, h86, h87, h88, h3, nI_1, cx_rc_4, ks_ne (show ¬ (84 : Nat) = 85 by decide), ks_ne (show ¬ (84 : Nat) = 86 by decide), ks_ne (show ¬ (84 : Nat) = 87 by decide), ks_ne (show ¬ (84 : Nat) = 88 by decide), ks_ne (show ¬ (85 : Nat) = 84 by decide), ks_ne (show ¬ (85 : Nat) = 86 by decide), ks_ne (show ¬ (85 : Nat) = 87 by decide), ks_ne (show ¬ (85 : Nat) = 88 by decide), ks_ne (show ¬ (86 : Nat) = 84 by decide), ks_ne (show ¬ (86 : Nat) = 85 by decide), ks_ne (show ¬ (86 : Nat) = 87 by decide), ks_ne (show ¬ (86 : Nat) = 88 by decide), ks_ne (show ¬ (87 : Nat) = 84 by decide), ks_ne (show ¬ (87 : Nat) = 85 by decide), ks_ne (show ¬ (87 : Nat) = 86 by decide), ks_ne (show ¬ (87 : Nat) = 88 by decide), ks_ne (show ¬ (88 : Nat) = 84 by decide), ks_ne (show ¬ (88 : Nat) = 85 by decide), ks_ne (show ¬ (88 : Nat) = 86 by decide), ks_ne (show ¬ (88 : Nat) = 87 by decide), cp5_5, ks_eq, ks_ss, nI_clamp (show k < 2 ^ 31 by omega)]; try dsimp only [kx_wp, kx_step, kx_lI, kx_lL, kx_lA, kx_gl, kx_pI, kx_pL, kx_pR, kx_pA, kx_pV, kx_s1, kx_s2, kx_sl, kx_pre, kx_c2, kx_pl, kx_cmp, kx_oF, kx_eqN, kx_nil, kx_c1, kx_ft, kx_aI, kx_aL, kx_aR, kx_ln, Nat.reduceAdd, Option.toList, List.cons_append, List.nil_append, cf5_5, cf5_4, cf5_0, cf5_3, cf5_1, cf5_2])
      repeat' apply And.intro
      all_goals try (first | with_reducible assumption | (with_reducible refine ck_nzI ?_; simp; done) | (with_reducible refine ck_nzL ?_; simp; done) | (with_reducible refine vp_in_nI ?_ ?_ <;> first | omega | decide) | (with_reducible refine Nat.le_of_ble_eq_true ?_; rfl) | omega)
      · intro zc12
        first | exact absurd rfl zc12 | exact absurd zc12 (by decide) | exact absurd (by decide) zc12 | (exfalso; first | exact absurd ((nI_leI (a := n) (b := k) (by omega) (by omega)).mp zc12) (by omega) | exact absurd ((nI_leI (a := k) (b := k) (by omega) (by omega)).mpr (by omega)) zc12 | exact absurd ((nI_leI (a := 100) (b := k) (by omega) (by omega)).mp zc18) (by omega)) | (exfalso; simp_all; done)
      · intro zc12
        with_reducible first | have ze12 := Int32.not_le.mp zc12 | have ze12 := zc12
        refine hB bX5_recall_15 _ _ _ _ _ _ _ kX5_recall_15 ?_
        dsimp only [bX5_recall_15, kx_wp, kx_step, kx_lI, kx_lL, kx_lA, kx_gl, kx_pI, kx_pL, kx_pR, kx_pA, kx_pV, kx_s1, kx_s2, kx_sl, kx_pre, kx_c2, kx_pl, kx_cmp, kx_oF, kx_eqN, kx_nil, kx_c1, kx_ft, kx_aI, kx_aL, kx_aR, kx_ln, Nat.reduceAdd, Option.toList, List.cons_append, List.nil_append, cf5_5, cf5_4, cf5_0, cf5_3, cf5_1, cf5_2]
        repeat (simp only [hO, h85, h86, h87, h88, h3, nI_1, cx_rc_4, ks_ne (show ¬ (84 : Nat) = 85 by decide), ks_ne (show ¬ (84 : Nat) = 86 by decide), ks_ne (show ¬ (84 : Nat) = 87 by decide), ks_ne (show ¬ (84 : Nat) = 88 by decide), ks_ne (show ¬ (85 : Nat) = 84 by decide), ks_ne (show ¬ (85 : Nat) = 86 by decide), ks_ne (show ¬ (85 : Nat) = 87 by decide), ks_ne (show ¬ (85 : Nat) = 88 by decide), ks_ne (show ¬ (86 : Nat) = 84 by decide), ks_ne (show ¬ (86 : Nat) = 85 by decide), ks_ne (show ¬ (86 : Nat) = 87 by decide), ks_ne (show ¬ (86 : Nat) = 88 by decide), ks_ne (show ¬ (87 : Nat) = 84 by decide), ks_ne (show ¬ (87 : Nat) = 85 by decide), ks_ne (show ¬ (87 : Nat) = 86 by decide), ks_ne (show ¬ (87 : Nat) = 88 by decide), ks_ne (show ¬ (88 : Nat) = 84 by decide), ks_ne (show ¬ (88 : Nat) = 85 by decide), ks_ne (show ¬ (88 : Nat) = 86 by decide), ks_ne (show ¬ (88 : Nat) = 87 by decide), cp5_5, ks_eq, ks_ss, nI_clamp (show k < 2 ^ 31 by omega)]; try dsimp only [kx_wp, kx_step, kx_lI, kx_lL, kx_lA, kx_gl, kx_pI, kx_pL, kx_pR, kx_pA, kx_pV, kx_s1, kx_s2, kx_sl, kx_pre, kx_c2, kx_pl, kx_cmp, kx_oF, kx_eqN, kx_nil, kx_c1, kx_ft, kx_aI, kx_aL, kx_aR, kx_ln, Nat.reduceAdd, Option.toList, List.cons_append, List.nil_append, cf5_5, cf5_4, cf5_0, cf5_3, cf5_1, cf5_2])
        repeat' apply And.intro
        all_goals try (first | with_reducible assumption | (with_reducible refine ck_nzI ?_; simp; done) | (with_reducible refine ck_nzL ?_; simp; done) | (with_reducible refine vp_in_nI ?_ ?_ <;> first | omega | decide) | (with_reducible refine Nat.le_of_ble_eq_true ?_; rfl) | omega)
        · intro zc18
          first | exact absurd rfl zc18 | exact absurd zc18 (by decide) | exact absurd (by decide) zc18 | (exfalso; first | exact absurd ((nI_leI (a := n) (b := k) (by omega) (by omega)).mp zc12) (by omega) | exact absurd ((nI_leI (a := k) (b := k) (by omega) (by omega)).mpr (by omega)) zc12 | exact absurd ((nI_leI (a := 100) (b := k) (by omega) (by omega)).mp zc18) (by omega)) | (exfalso; simp_all; done)
        · intro zc18
          with_reducible first | have ze18 := Int32.not_le.mp zc18 | have ze18 := zc18
          refine hB bX5_recall_21 _ _ _ _ _ _ _ kX5_recall_21 ?_
          dsimp only [bX5_recall_21, kx_wp, kx_step, kx_lI, kx_lL, kx_lA, kx_gl, kx_pI, kx_pL, kx_pR, kx_pA, kx_pV, kx_s1, kx_s2, kx_sl, kx_pre, kx_c2, kx_pl, kx_cmp, kx_oF, kx_eqN, kx_nil, kx_c1, kx_ft, kx_aI, kx_aL, kx_aR, kx_ln, Nat.reduceAdd, Option.toList, List.cons_append, List.nil_append, cf5_5, cf5_4, cf5_0, cf5_3, cf5_1, cf5_2]
          repeat (simp only [hO, h85, h86, h87, h88, h3, nI_1, cx_rc_4, ks_ne (show ¬ (84 : Nat) = 85 by decide), ks_ne (show ¬ (84 : Nat) = 86 by decide), ks_ne (show ¬ (84 : Nat) = 87 by decide), ks_ne (show ¬ (84 : Nat) = 88 by decide), ks_ne (show ¬ (85 : Nat) = 84 by decide), ks_ne (show ¬ (85 : Nat) = 86 by decide), ks_ne (show ¬ (85 : Nat) = 87 by decide), ks_ne (show ¬ (85 : Nat) = 88 by decide), ks_ne (show ¬ (86 : Nat) = 84 by decide), ks_ne (show ¬ (86 : Nat) = 85 by decide), ks_ne (show ¬ (86 : Nat) = 87 by decide), ks_ne (show ¬ (86 : Nat) = 88 by decide), ks_ne (show ¬ (87 : Nat) = 84 by decide), ks_ne (show ¬ (87 : Nat) = 85 by decide), ks_ne (show ¬ (87 : Nat) = 86 by decide), ks_ne (show ¬ (87 : Nat) = 88 by decide), ks_ne (show ¬ (88 : Nat) = 84 by decide), ks_ne (show ¬ (88 : Nat) = 85 by decide), ks_ne (show ¬ (88 : Nat) = 86 by decide), ks_ne (show ¬ (88 : Nat) = 87 by decide), cp5_5, ks_eq, ks_ss, nI_clamp (show k < 2 ^ 31 by omega)]; try dsimp only [kx_wp, kx_step, kx_lI, kx_lL, kx_lA, kx_gl, kx_pI, kx_pL, kx_pR, kx_pA, kx_pV, kx_s1, kx_s2, kx_sl, kx_pre, kx_c2, kx_pl, kx_cmp, kx_oF, kx_eqN, kx_nil, kx_c1, kx_ft, kx_aI, kx_aL, kx_aR, kx_ln, Nat.reduceAdd, Option.toList, List.cons_append, List.nil_append, cf5_5, cf5_4, cf5_0, cf5_3, cf5_1, cf5_2])
          repeat' apply And.intro
          all_goals try (first | with_reducible assumption | (with_reducible refine ck_nzI ?_; simp; done) | (with_reducible refine ck_nzL ?_; simp; done) | (with_reducible refine vp_in_nI ?_ ?_ <;> first | omega | decide) | (with_reducible refine Nat.le_of_ble_eq_true ?_; rfl) | omega)
          · intro zc28
            have ze28 := zc28
            refine hB bX5_recall_57 _ _ _ _ _ _ _ kX5_recall_57 ?_
            dsimp only [bX5_recall_57, kx_wp, kx_step, kx_lI, kx_lL, kx_lA, kx_gl, kx_pI, kx_pL, kx_pR, kx_pA, kx_pV, kx_s1, kx_s2, kx_sl, kx_pre, kx_c2, kx_pl, kx_cmp, kx_oF, kx_eqN, kx_nil, kx_c1, kx_ft, kx_aI, kx_aL, kx_aR, kx_ln, Nat.reduceAdd, Option.toList, List.cons_append, List.nil_append, cf5_5, cf5_4, cf5_0, cf5_3, cf5_1, cf5_2]
            repeat (simp only [hO, h85, h86, h87, h88, h3, nI_1, cx_rc_4, ks_ne (show ¬ (84 : Nat) = 85 by decide), ks_ne (show ¬ (84 : Nat) = 86 by decide), ks_ne (show ¬ (84 : Nat) = 87 by decide), ks_ne (show ¬ (84 : Nat) = 88 by decide), ks_ne (show ¬ (85 : Nat) = 84 by decide), ks_ne (show ¬ (85 : Nat) = 86 by decide), ks_ne (show ¬ (85 : Nat) = 87 by decide), ks_ne (show ¬ (85 : Nat) = 88 by decide), ks_ne (show ¬ (86 : Nat) = 84 by decide), ks_ne (show ¬ (86 : Nat) = 85 by decide), ks_ne (show ¬ (86 : Nat) = 87 by decide), ks_ne (show ¬ (86 : Nat) = 88 by decide), ks_ne (show ¬ (87 : Nat) = 84 by decide), ks_ne (show ¬ (87 : Nat) = 85 by decide), ks_ne (show ¬ (87 : Nat) = 86 by decide), ks_ne (show ¬ (87 : Nat) = 88 by decide), ks_ne (show ¬ (88 : Nat) = 84 by decide), ks_ne (show ¬ (88 : Nat) = 85 by decide), ks_ne (show ¬ (88 : Nat) = 86 by decide), ks_ne (show ¬ (88 : Nat) = 87 by decide), cp5_5, ks_eq, ks_ss, nI_clamp (show k < 2 ^ 31 by omega)]; try dsimp only [kx_wp, kx_step, kx_lI, kx_lL, kx_lA, kx_gl, kx_pI, kx_pL, kx_pR, kx_pA, kx_pV, kx_s1, kx_s2, kx_sl, kx_pre, kx_c2, kx_pl, kx_cmp, kx_oF, kx_eqN, kx_nil, kx_c1, kx_ft, kx_aI, kx_aL, kx_aR, kx_ln, Nat.reduceAdd, Option.toList, List.cons_append, List.nil_append, cf5_5, cf5_4, cf5_0, cf5_3, cf5_1, cf5_2])
            repeat' apply And.intro
            all_goals try (first | with_reducible assumption | (with_reducible refine ck_nzI ?_; simp; done) | (with_reducible refine ck_nzL ?_; simp; done) | (with_reducible refine vp_in_nI ?_ ?_ <;> first | omega | decide) | (with_reducible refine Nat.le_of_ble_eq_true ?_; rfl) | omega)
            have zi := ih (k + 1) (by omega)
            simp only [cx_rc, zc12, ze12, zc18, ze18, ze28, ↓reduceIte] at zi
            exact zi
          · intro zc28
            with_reducible first | have ze28 := Decidable.not_not.mp zc28 | have ze28 := zc28
            refine hB bX5_recall_31 _ _ _ _ _ _ _ kX5_recall_31 ?_
            dsimp only [bX5_recall_31, kx_wp, kx_step, kx_lI, kx_lL, kx_lA, kx_gl, kx_pI, kx_pL, kx_pR, kx_pA, kx_pV, kx_s1, kx_s2, kx_sl, kx_pre, kx_c2, kx_pl, kx_cmp, kx_oF, kx_eqN, kx_nil, kx_c1, kx_ft, kx_aI, kx_aL, kx_aR, kx_ln, Nat.reduceAdd, Option.toList, List.cons_append, List.nil_append, cf5_5, cf5_4, cf5_0, cf5_3, cf5_1, cf5_2]
            repeat (simp only [hO, h85, h86, h87, h88, h3, nI_1, cx_rc_4, ks_ne (show ¬ (84 : Nat) = 85 by decide), ks_ne (show ¬ (84 : Nat) = 86 by decide), ks_ne (show ¬ (84 : Nat) = 87 by decide), ks_ne (show ¬ (84 : Nat) = 88 by decide), ks_ne (show ¬ (85 : Nat) = 84 by decide), ks_ne (show ¬ (85 : Nat) = 86 by decide), ks_ne (show ¬ (85 : Nat) = 87 by decide), ks_ne (show ¬ (85 : Nat) = 88 by decide), ks_ne (show ¬ (86 : Nat) = 84 by decide), ks_ne (show ¬ (86 : Nat) = 85 by decide), ks_ne (show ¬ (86 : Nat) = 87 by decide), ks_ne (show ¬ (86 : Nat) = 88 by decide), ks_ne (show ¬ (87 : Nat) = 84 by decide), ks_ne (show ¬ (87 : Nat) = 85 by decide), ks_ne (show ¬ (87 : Nat) = 86 by decide), ks_ne (show ¬ (87 : Nat) = 88 by decide), ks_ne (show ¬ (88 : Nat) = 84 by decide), ks_ne (show ¬ (88 : Nat) = 85 by decide), ks_ne (show ¬ (88 : Nat) = 86 by decide), ks_ne (show ¬ (88 : Nat) = 87 by decide), cp5_5, ks_eq, ks_ss, nI_clamp (show k < 2 ^ 31 by omega)]; try dsimp only [kx_wp, kx_step, kx_lI, kx_lL, kx_lA, kx_gl, kx_pI, kx_pL, kx_pR, kx_pA, kx_pV, kx_s1, kx_s2, kx_sl, kx_pre, kx_c2, kx_pl, kx_cmp, kx_oF, kx_eqN, kx_nil, kx_c1, kx_ft, kx_aI, kx_aL, kx_aR, kx_ln, Nat.reduceAdd, Option.toList, List.cons_append, List.nil_append, cf5_5, cf5_4, cf5_0, cf5_3, cf5_1, cf5_2])
            repeat' apply And.intro
            all_goals try (first | with_reducible assumption | (with_reducible refine ck_nzI ?_; simp; done) | (with_reducible refine ck_nzL ?_; simp; done) | (with_reducible refine vp_in_nI ?_ ?_ <;> first | omega | decide) | (with_reducible refine Nat.le_of_ble_eq_true ?_; rfl) | omega)
            · intro zc38
              with_reducible first | have ze38 := Int32.not_le.mpr zc38 | have ze38 := zc38
              refine hB bX5_recall_57 _ _ _ _ _ _ _ kX5_recall_57 ?_
              dsimp only [bX5_recall_57, kx_wp, kx_step, kx_lI, kx_lL, kx_lA, kx_gl, kx_pI, kx_pL, kx_pR, kx_pA, kx_pV, kx_s1, kx_s2, kx_sl, kx_pre, kx_c2, kx_pl, kx_cmp, kx_oF, kx_eqN, kx_nil, kx_c1, kx_ft, kx_aI, kx_aL, kx_aR, kx_ln, Nat.reduceAdd, Option.toList, List.cons_append, List.nil_append, cf5_5, cf5_4, cf5_0, cf5_3, cf5_1, cf5_2]
              repeat (simp only [hO, h85, h86, h87, h88, h3, nI_1, cx_rc_4, ks_ne (show ¬ (84 : Nat) = 85 by decide), ks_ne (show ¬ (84 : Nat) = 86 by decide), ks_ne (show ¬ (84 : Nat) = 87 by decide), ks_ne (show ¬ (84 : Nat) = 88 by decide), ks_ne (show ¬ (85 : Nat) = 84 by decide), ks_ne (show ¬ (85 : Nat) = 86 by decide), ks_ne (show ¬ (85 : Nat) = 87 by decide), ks_ne (show ¬ (85 : Nat) = 88 by decide), ks_ne (show ¬ (86 : Nat) = 84 by decide), ks_ne (show ¬ (86 : Nat) = 85 by decide), ks_ne (show ¬ (86 : Nat) = 87 by decide), ks_ne (show ¬ (86 : Nat) = 88 by decide), ks_ne (show ¬ (87 : Nat) = 84 by decide), ks_ne (show ¬ (87 : Nat) = 85 by decide), ks_ne (show ¬ (87 : Nat) = 86 by decide), ks_ne (show ¬ (87 : Nat) = 88 by decide), ks_ne (show ¬ (88 : Nat) = 84 by decide), ks_ne (show ¬ (88 : Nat) = 85 by decide), ks_ne (show ¬ (88 : Nat) = 86 by decide), ks_ne (show ¬ (88 : Nat) = 87 by decide), cp5_5, ks_eq, ks_ss, nI_clamp (show k < 2 ^ 31 by omega)]; try dsimp only [kx_wp, kx_step, kx_lI, kx_lL, kx_lA, kx_gl, kx_pI, kx_pL, kx_pR, kx_pA, kx_pV, kx_s1, kx_s2, kx_sl, kx_pre, kx_c2, kx_pl, kx_cmp, kx_oF, kx_eqN, kx_nil, kx_c1, kx_ft, kx_aI, kx_aL, kx_aR, kx_ln, Nat.reduceAdd, Option.toList, List.cons_append, List.nil_append, cf5_5, cf5_4, cf5_0, cf5_3, cf5_1, cf5_2])
              repeat' apply And.intro
              all_goals try (first | with_reducible assumption | (with_reducible refine ck_nzI ?_; simp; done) | (with_reducible refine ck_nzL ?_; simp; done) | (with_reducible refine vp_in_nI ?_ ?_ <;> first | omega | decide) | (with_reducible refine Nat.le_of_ble_eq_true ?_; rfl) | omega)
              have zi := ih (k + 1) (by omega)
              simp only [cx_rc, zc12, ze12, zc18, ze18, eq_true ze28, zc38, ze38, ↓reduceIte] at zi
              exact zi
            · intro zc38
              with_reducible first | have ze38 := Int32.not_lt.mp zc38 | have ze38 := zc38
              refine hB bX5_recall_41 _ _ _ _ _ _ _ kX5_recall_41 ?_
              dsimp only [bX5_recall_41, kx_wp, kx_step, kx_lI, kx_lL, kx_lA, kx_gl, kx_pI, kx_pL, kx_pR, kx_pA, kx_pV, kx_s1, kx_s2, kx_sl, kx_pre, kx_c2, kx_pl, kx_cmp, kx_oF, kx_eqN, kx_nil, kx_c1, kx_ft, kx_aI, kx_aL, kx_aR, kx_ln, Nat.reduceAdd, Option.toList, List.cons_append, List.nil_append, cf5_5, cf5_4, cf5_0, cf5_3, cf5_1, cf5_2]
              repeat (simp only [hO, h85, h86, h87, h88, h3, nI_1, cx_rc_4, ks_ne (show ¬ (84 : Nat) = 85 by decide), ks_ne (show ¬ (84 : Nat) = 86 by decide), ks_ne (show ¬ (84 : Nat) = 87 by decide), ks_ne (show ¬ (84 : Nat) = 88 by decide), ks_ne (show ¬ (85 : Nat) = 84 by decide), ks_ne (show ¬ (85 : Nat) = 86 by decide), ks_ne (show ¬ (85 : Nat) = 87 by decide), ks_ne (show ¬ (85 : Nat) = 88 by decide), ks_ne (show ¬ (86 : Nat) = 84 by decide), ks_ne (show ¬ (86 : Nat) = 85 by decide), ks_ne (show ¬ (86 : Nat) = 87 by decide), ks_ne (show ¬ (86 : Nat) = 88 by decide), ks_ne (show ¬ (87 : Nat) = 84 by decide), ks_ne (show ¬ (87 : Nat) = 85 by decide), ks_ne (show ¬ (87 : Nat) = 86 by decide), ks_ne (show ¬ (87 : Nat) = 88 by decide), ks_ne (show ¬ (88 : Nat) = 84 by decide), ks_ne (show ¬ (88 : Nat) = 85 by decide), ks_ne (show ¬ (88 : Nat) = 86 by decide), ks_ne (show ¬ (88 : Nat) = 87 by decide), cp5_5, ks_eq, ks_ss, nI_clamp (show k < 2 ^ 31 by omega)]; try dsimp only [kx_wp, kx_step, kx_lI, kx_lL, kx_lA, kx_gl, kx_pI, kx_pL, kx_pR, kx_pA, kx_pV, kx_s1, kx_s2, kx_sl, kx_pre, kx_c2, kx_pl, kx_cmp, kx_oF, kx_eqN, kx_nil, kx_c1, kx_ft, kx_aI, kx_aL, kx_aR, kx_ln, Nat.reduceAdd, Option.toList, List.cons_append, List.nil_append, cf5_5, cf5_4, cf5_0, cf5_3, cf5_1, cf5_2])
              repeat' apply And.intro
              all_goals try (first | with_reducible assumption | (with_reducible refine ck_nzI ?_; simp; done) | (with_reducible refine ck_nzL ?_; simp; done) | (with_reducible refine vp_in_nI ?_ ?_ <;> first | omega | decide) | (with_reducible refine Nat.le_of_ble_eq_true ?_; rfl) | omega)
              refine hC.1 43 _ _ _ _ _ _ _ 5 _ _ _ _ _ _ _ _ _ _ _ _ lX5_43 (ct_X5_weigh l G (ks_eq _ _ _)) ⟨by decide, rfl⟩ (ks_eq _ _ _) rfl rfl (Nat.le_of_ble_eq_true rfl) (by decide) (by decide) (by omega) (by omega) dX5_recall_54 ?_
              rw [ks_ss]
              refine hB bX5_recall_57 _ _ _ _ _ _ _ kX5_recall_57 ?_
              dsimp only [bX5_recall_57, kx_wp, kx_step, kx_lI, kx_lL, kx_lA, kx_gl, kx_pI, kx_pL, kx_pR, kx_pA, kx_pV, kx_s1, kx_s2, kx_sl, kx_pre, kx_c2, kx_pl, kx_cmp, kx_oF, kx_eqN, kx_nil, kx_c1, kx_ft, kx_aI, kx_aL, kx_aR, kx_ln, Nat.reduceAdd, Option.toList, List.cons_append, List.nil_append, cf5_5, cf5_4, cf5_0, cf5_3, cf5_1, cf5_2]
              repeat (simp only [hO, h85, h86, h87, h88, h3, nI_1, cx_rc_4, ks_ne (show ¬ (84 : Nat) = 85 by decide), ks_ne (show ¬ (84 : Nat) = 86 by decide), ks_ne (show ¬ (84 : Nat) = 87 by decide), ks_ne (show ¬ (84 : Nat) = 88 by decide), ks_ne (show ¬ (85 : Nat) = 84 by decide), ks_ne (show ¬ (85 : Nat) = 86 by decide), ks_ne (show ¬ (85 : Nat) = 87 by decide), ks_ne (show ¬ (85 : Nat) = 88 by decide), ks_ne (show ¬ (86 : Nat) = 84 by decide), ks_ne (show ¬ (86 : Nat) = 85 by decide), ks_ne (show ¬ (86 : Nat) = 87 by decide), ks_ne (show ¬ (86 : Nat) = 88 by decide), ks_ne (show ¬ (87 : Nat) = 84 by decide), ks_ne (show ¬ (87 : Nat) = 85 by decide), ks_ne (show ¬ (87 : Nat) = 86 by decide), ks_ne (show ¬ (87 : Nat) = 88 by decide), ks_ne (show ¬ (88 : Nat) = 84 by decide), ks_ne (show ¬ (88 : Nat) = 85 by decide), ks_ne (show ¬ (88 : Nat) = 86 by decide), ks_ne (show ¬ (88 : Nat) = 87 by decide), cp5_5, ks_eq, ks_ss, nI_clamp (show k < 2 ^ 31 by omega)]; try dsimp only [kx_wp, kx_step, kx_lI, kx_lL, kx_lA, kx_gl, kx_pI, kx_pL, kx_pR, kx_pA, kx_pV, kx_s1, kx_s2, kx_sl, kx_pre, kx_c2, kx_pl, kx_cmp, kx_oF, kx_eqN, kx_nil, kx_c1, kx_ft, kx_aI, kx_aL, kx_aR, kx_ln, Nat.reduceAdd, Option.toList, List.cons_append, List.nil_append, cf5_5, cf5_4, cf5_0, cf5_3, cf5_1, cf5_2])
              repeat' apply And.intro
              all_goals try (first | with_reducible assumption | (with_reducible refine ck_nzI ?_; simp; done) | (with_reducible refine ck_nzL ?_; simp; done) | (with_reducible refine vp_in_nI ?_ ?_ <;> first | omega | decide) | (with_reducible refine Nat.le_of_ble_eq_true ?_; rfl) | omega)
              have zi := ih (k + 1) (by omega)
              simp only [cx_rc, zc12, ze12, zc18, ze18, eq_true ze28, zc38, ze38, ↓reduceIte] at zi
              exact zi
  refine hB bX5_recall_0 _ _ _ _ _ _ _ kX5_recall_0 ?_
  dsimp only [bX5_recall_0, kx_wp, kx_step, kx_lI, kx_lL, kx_lA, kx_gl, kx_pI, kx_pL, kx_pR, kx_pA, kx_pV, kx_s1, kx_s2, kx_sl, kx_pre, kx_c2, kx_pl, kx_cmp, kx_oF, kx_eqN, kx_nil, kx_c1, kx_ft, kx_aI, kx_aL, kx_aR, kx_ln, Nat.reduceAdd, Option.toList, List.cons_append, List.nil_append, cf5_5, cf5_4, cf5_0, cf5_3, cf5_1, cf5_2]
  repeat (simp only [hO, h85, h86, h87, h88, h3, nI_1, cx_rc_4, ks_ne (show ¬ (84 : Nat) = 85 by decide), ks_ne (show ¬ (84 : Nat) = 86 by decide), ks_ne (show ¬ (84 : Nat) = 87 by decide), ks_ne (show ¬ (84 : Nat) = 88 by decide), ks_ne (show ¬ (85 : Nat) = 84 by decide), ks_ne (show ¬ (85 : Nat) = 86 by decide), ks_ne (show ¬ (85 : Nat) = 87 by decide), ks_ne (show ¬ (85 : Nat) = 88 by decide), ks_ne (show ¬ (86 : Nat) = 84 by decide), ks_ne (show ¬ (86 : Nat) = 85 by decide), ks_ne (show ¬ (86 : Nat) = 87 by decide), ks_ne (show ¬ (86 : Nat) = 88 by decide), ks_ne (show ¬ (87 : Nat) = 84 by decide), ks_ne (show ¬ (87 : Nat) = 85 by decide), ks_ne (show ¬ (87 : Nat) = 86 by decide), ks_ne (show ¬ (87 : Nat) = 88 by decide), ks_ne (show ¬ (88 : Nat) = 84 by decide), ks_ne (show ¬ (88 : Nat) = 85 by decide), ks_ne (show ¬ (88 : Nat) = 86 by decide), ks_ne (show ¬ (88 : Nat) = 87 by decide), cp5_5, ks_eq, ks_ss]; try dsimp only [kx_wp, kx_step, kx_lI, kx_lL, kx_lA, kx_gl, kx_pI, kx_pL, kx_pR, kx_pA, kx_pV, kx_s1, kx_s2, kx_sl, kx_pre, kx_c2, kx_pl, kx_cmp, kx_oF, kx_eqN, kx_nil, kx_c1, kx_ft, kx_aI, kx_aL, kx_aR, kx_ln, Nat.reduceAdd, Option.toList, List.cons_append, List.nil_append, cf5_5, cf5_4, cf5_0, cf5_3, cf5_1, cf5_2])
  repeat' apply And.intro
  all_goals try (first | with_reducible assumption | (with_reducible refine ck_nzI ?_; simp; done) | (with_reducible refine ck_nzL ?_; simp; done) | (with_reducible refine vp_in_nI ?_ ?_ <;> first | omega | decide) | (with_reducible refine Nat.le_of_ble_eq_true ?_; rfl) | omega)
  exact loop7 n 0 (by omega)

def cx_ea (F : Nat → Int32) (m : Int32) : Int64 := if F 5 = 0 then -2000000000 else if F 5 = 1 then (F 9).toInt64 else if F 8 = F 6 then (F 9).toInt64 else (F 9).toInt64 + cj_fdL ((F 9 - F 7).toInt64 * (m - F 8).toInt64) (F 8 - F 6).toInt64
def cx_rr (F : Nat → Int32) : Int64 := if F 5 < 2 then -2000000000 else if F 8 = F 6 then -2000000000 else cj_fdL ((F 9 - F 7).toInt64 * 1000) (60 * (F 8 - F 6).toInt64)
theorem cx_ne0 {a b : Int32} (h : ¬ a = b) : ¬ (a - b).toInt64 = 0 := by
  intro e
  have e1 : (a - b).toInt = 0 := by
    have := congrArg Int64.toInt e
    rwa [Int32.toInt_toInt64] at this
  have e2 : a - b = 0 := Int32.toInt_inj.mp e1
  exact h (by have := congrArg (· + b) e2; simpa using this)
theorem cx_ne60 {a b : Int32} (h : ¬ a = b) : ¬ 60 * (a - b).toInt64 = 0 := by
  intro e
  have hb := Int32.le_toInt (a - b)
  have hb2 := Int32.toInt_lt (a - b)
  have e1 : (60 * (a - b).toInt64).toInt = 60 * (a - b).toInt := by
    rw [fb_mulL (by rw [show (60 : Int64).toInt = 60 from rfl, Int32.toInt_toInt64]; omega) (by rw [show (60 : Int64).toInt = 60 from rfl, Int32.toInt_toInt64]; omega), Int32.toInt_toInt64]; rfl
  rw [e] at e1
  have e3 : (a - b).toInt = 0 := by
    have : (0 : Int64).toInt = 0 := rfl
    omega
  exact cx_ne0 h (Int64.toInt_inj.mp (by rw [Int32.toInt_toInt64, e3]; rfl))
def cx_be (F : Nat → Int32) (m v : Int32) : Int32 := if v.toInt64 < cx_ea F m then 1 else if cx_ea F m < (-v).toInt64 then 1 else 0
def bX5_errorAt_0 : List kx_O := [(.aload_n 0, 0, 0, 0, .null), (.getfield 28, 5, 5, 0, .null), (.ifCond .ne 7, 11, 0, 0, .null)]
theorem kX5_errorAt_0 : kx_oks kxL_X5 false cX5_errorAt 0 bX5_errorAt_0 = true := by decide +kernel
def bX5_errorAt_7 : List kx_O := [(.ldc2_w 53, 0, 0, 0, .long (-2000000000)), (.lreturn, 0, 0, 0, .null)]
theorem kX5_errorAt_7 : kx_oks kxL_X5 false cX5_errorAt 7 bX5_errorAt_7 = true := by decide +kernel
def bX5_errorAt_11 : List kx_O := [(.aload_n 0, 0, 0, 0, .null), (.getfield 28, 5, 5, 0, .null), (.iconst 1, 0, 0, 0, .int 1), (.if_icmp .eq 14, 30, 0, 0, .null)]
theorem kX5_errorAt_11 : kx_oks kxL_X5 false cX5_errorAt 11 bX5_errorAt_11 = true := by decide +kernel
def bX5_errorAt_19 : List kx_O := [(.aload_n 0, 0, 0, 0, .null), (.getfield 37, 5, 8, 0, .null), (.aload_n 0, 0, 0, 0, .null), (.getfield 31, 5, 6, 0, .null), (.if_icmp .ne 9, 36, 0, 0, .null)]
theorem kX5_errorAt_19 : kx_oks kxL_X5 false cX5_errorAt 19 bX5_errorAt_19 = true := by decide +kernel
def bX5_errorAt_30 : List kx_O := [(.aload_n 0, 0, 0, 0, .null), (.getfield 40, 5, 9, 0, .null), (.i2l, 0, 0, 0, .null), (.lreturn, 0, 0, 0, .null)]
theorem kX5_errorAt_30 : kx_oks kxL_X5 false cX5_errorAt 30 bX5_errorAt_30 = true := by decide +kernel
def bX5_errorAt_36 : List kx_O := [(.aload_n 0, 0, 0, 0, .null), (.getfield 40, 5, 9, 0, .null), (.i2l, 0, 0, 0, .null), (.aload_n 0, 0, 0, 0, .null), (.getfield 40, 5, 9, 0, .null), (.aload_n 0, 0, 0, 0, .null), (.getfield 34, 5, 7, 0, .null), (.isub, 0, 0, 0, .null), (.i2l, 0, 0, 0, .null), (.iload_n 1, 1, 0, 0, .null), (.aload_n 0, 0, 0, 0, .null), (.getfield 37, 5, 8, 0, .null), (.isub, 0, 0, 0, .null), (.i2l, 0, 0, 0, .null), (.lmul, 0, 0, 0, .null), (.aload_n 0, 0, 0, 0, .null), (.getfield 37, 5, 8, 0, .null), (.aload_n 0, 0, 0, 0, .null), (.getfield 31, 5, 6, 0, .null), (.isub, 0, 0, 0, .null), (.i2l, 0, 0, 0, .null)]
theorem kX5_errorAt_36 : kx_oks kxL_X5 false cX5_errorAt 36 bX5_errorAt_36 = true := by decide +kernel
def bX5_errorAt_72 : List kx_O := [(.ladd, 0, 0, 0, .null), (.lreturn, 0, 0, 0, .null)]
theorem kX5_errorAt_72 : kx_oks kxL_X5 false cX5_errorAt 72 bX5_errorAt_72 = true := by decide +kernel
theorem dX5_errorAt_69 : decode cX5_errorAt 69 = .ok (.invokestatic 55, 3) := by decide +kernel
set_option maxRecDepth 100000 in
set_option maxHeartbeats 4000000 in
theorem ct_X5_errorAt (l : Launch) (G : kx_G) {P : kx_P} {sz : Nat} {F : Nat → Int32} (hO : P 84 = kO 5 (kf cr5 F)) {m : Int32}  : kx_M l G sX5_errorAt 2 0 0 [.ref 84, .int (m)] P sz (some (.long (cx_ea F m))) P sz := by
  refine kx_mk kx_tab kxLok_X5 (ini := false) [some (.ref 84), some (.int (m))] ⟨by decide, rfl, by decide, by decide⟩ (⟨_, rfl⟩) rfl rfl (fun g hB hC => ?_)
  refine hB bX5_errorAt_0 _ _ _ _ _ _ _ kX5_errorAt_0 ?_
  dsimp only [bX5_errorAt_0, kx_wp, kx_step, kx_lI, kx_lL, kx_lA, kx_gl, kx_pI, kx_pL, kx_pR, kx_pA, kx_pV, kx_s1, kx_s2, kx_sl, kx_pre, kx_c2, kx_pl, kx_cmp, kx_oF, kx_eqN, kx_nil, kx_c1, kx_ft, kx_aI, kx_aL, kx_aR, kx_ln, Nat.reduceAdd, Option.toList, List.cons_append, List.nil_append, cf5_5, cf5_8, cf5_6, cf5_9, cf5_7]
  repeat (simp only [hO, ks_eq, ks_ss]; try dsimp only [kx_wp, kx_step, kx_lI, kx_lL, kx_lA, kx_gl, kx_pI, kx_pL, kx_pR, kx_pA, kx_pV, kx_s1, kx_s2, kx_sl, kx_pre, kx_c2, kx_pl, kx_cmp, kx_oF, kx_eqN, kx_nil, kx_c1, kx_ft, kx_aI, kx_aL, kx_aR, kx_ln, Nat.reduceAdd, Option.toList, List.cons_append, List.nil_append, cf5_5, cf5_8, cf5_6, cf5_9, cf5_7])
  repeat' apply And.intro
  all_goals try (first | with_reducible assumption | (with_reducible refine ck_nzI ?_; simp; done) | (with_reducible refine ck_nzL ?_; simp; done) | (with_reducible refine vp_in_nI ?_ ?_ <;> first | omega | decide) | (with_reducible refine Nat.le_of_ble_eq_true ?_; rfl) | omega)
  · intro zc4
    have ze4 := zc4
    refine hB bX5_errorAt_11 _ _ _ _ _ _ _ kX5_errorAt_11 ?_
    dsimp only [bX5_errorAt_11, kx_wp, kx_step, kx_lI, kx_lL, kx_lA, kx_gl, kx_pI, kx_pL, kx_pR, kx_pA, kx_pV, kx_s1, kx_s2, kx_sl, kx_pre, kx_c2, kx_pl, kx_cmp, kx_oF, kx_eqN, kx_nil, kx_c1, kx_ft, kx_aI, kx_aL, kx_aR, kx_ln, Nat.reduceAdd, Option.toList, List.cons_append, List.nil_append, cf5_5, cf5_8, cf5_6, cf5_9, cf5_7]
    repeat (simp only [hO, ks_eq, ks_ss]; try dsimp only [kx_wp, kx_step, kx_lI, kx_lL, kx_lA, kx_gl, kx_pI, kx_pL, kx_pR, kx_pA, kx_pV, kx_s1, kx_s2, kx_sl, kx_pre, kx_c2, kx_pl, kx_cmp, kx_oF, kx_eqN, kx_nil, kx_c1, kx_ft, kx_aI, kx_aL, kx_aR, kx_ln, Nat.reduceAdd, Option.toList, List.cons_append, List.nil_append, cf5_5, cf5_8, cf5_6, cf5_9, cf5_7])
    repeat' apply And.intro
    all_goals try (first | with_reducible assumption | (with_reducible refine ck_nzI ?_; simp; done) | (with_reducible refine ck_nzL ?_; simp; done) | (with_reducible refine vp_in_nI ?_ ?_ <;> first | omega | decide) | (with_reducible refine Nat.le_of_ble_eq_true ?_; rfl) | omega)
    · intro zc16
      have ze16 := zc16
      refine hB bX5_errorAt_30 _ _ _ _ _ _ _ kX5_errorAt_30 ?_
      dsimp only [bX5_errorAt_30, kx_wp, kx_step, kx_lI, kx_lL, kx_lA, kx_gl, kx_pI, kx_pL, kx_pR, kx_pA, kx_pV, kx_s1, kx_s2, kx_sl, kx_pre, kx_c2, kx_pl, kx_cmp, kx_oF, kx_eqN, kx_nil, kx_c1, kx_ft, kx_aI, kx_aL, kx_aR, kx_ln, Nat.reduceAdd, Option.toList, List.cons_append, List.nil_append, cf5_5, cf5_8, cf5_6, cf5_9, cf5_7]
      repeat (simp only [hO, ks_eq, ks_ss]; try dsimp only [kx_wp, kx_step, kx_lI, kx_lL, kx_lA, kx_gl, kx_pI, kx_pL, kx_pR, kx_pA, kx_pV, kx_s1, kx_s2, kx_sl, kx_pre, kx_c2, kx_pl, kx_cmp, kx_oF, kx_eqN, kx_nil, kx_c1, kx_ft, kx_aI, kx_aL, kx_aR, kx_ln, Nat.reduceAdd, Option.toList, List.cons_append, List.nil_append, cf5_5, cf5_8, cf5_6, cf5_9, cf5_7])
      all_goals (repeat' apply And.intro)
      all_goals ((try clear hB hC); first | exact True.intro | with_reducible rfl | with_reducible assumption | (with_reducible refine vp_in_nI ?_ ?_ <;> first | omega | decide) | exact Nat.le_of_ble_eq_true rfl | (with_reducible refine ck_nzI ?_; simp; done) | (with_reducible refine ck_nzL ?_; simp; done) | (simp only [pk_us, pk_uLs, cx_ea, ze4, eq_true ze16, ↓reduceIte, not_true_eq_false, not_false_eq_true]; done) | (simp only [cx_ea, ze4, eq_true ze16, ↓reduceIte, not_true_eq_false, not_false_eq_true]; with_reducible rfl) | skip)
    · intro zc16
      have ze16 := zc16
      refine hB bX5_errorAt_19 _ _ _ _ _ _ _ kX5_errorAt_19 ?_
      dsimp only [bX5_errorAt_19, kx_wp, kx_step, kx_lI, kx_lL, kx_lA, kx_gl, kx_pI, kx_pL, kx_pR, kx_pA, kx_pV, kx_s1, kx_s2, kx_sl, kx_pre, kx_c2, kx_pl, kx_cmp, kx_oF, kx_eqN, kx_nil, kx_c1, kx_ft, kx_aI, kx_aL, kx_aR, kx_ln, Nat.reduceAdd, Option.toList, List.cons_append, List.nil_append, cf5_5, cf5_8, cf5_6, cf5_9, cf5_7]
      repeat (simp only [hO, ks_eq, ks_ss]; try dsimp only [kx_wp, kx_step, kx_lI, kx_lL, kx_lA, kx_gl, kx_pI, kx_pL, kx_pR, kx_pA, kx_pV, kx_s1, kx_s2, kx_sl, kx_pre, kx_c2, kx_pl, kx_cmp, kx_oF, kx_eqN, kx_nil, kx_c1, kx_ft, kx_aI, kx_aL, kx_aR, kx_ln, Nat.reduceAdd, Option.toList, List.cons_append, List.nil_append, cf5_5, cf5_8, cf5_6, cf5_9, cf5_7])
      repeat' apply And.intro
      all_goals try (first | with_reducible assumption | (with_reducible refine ck_nzI ?_; simp; done) | (with_reducible refine ck_nzL ?_; simp; done) | (with_reducible refine vp_in_nI ?_ ?_ <;> first | omega | decide) | (with_reducible refine Nat.le_of_ble_eq_true ?_; rfl) | omega)
      · intro zc27
        have ze27 := zc27
        refine hB bX5_errorAt_36 _ _ _ _ _ _ _ kX5_errorAt_36 ?_
        dsimp only [bX5_errorAt_36, kx_wp, kx_step, kx_lI, kx_lL, kx_lA, kx_gl, kx_pI, kx_pL, kx_pR, kx_pA, kx_pV, kx_s1, kx_s2, kx_sl, kx_pre, kx_c2, kx_pl, kx_cmp, kx_oF, kx_eqN, kx_nil, kx_c1, kx_ft, kx_aI, kx_aL, kx_aR, kx_ln, Nat.reduceAdd, Option.toList, List.cons_append, List.nil_append, cf5_5, cf5_8, cf5_6, cf5_9, cf5_7]
        repeat (simp only [hO, ks_eq, ks_ss]; try dsimp only [kx_wp, kx_step, kx_lI, kx_lL, kx_lA, kx_gl, kx_pI, kx_pL, kx_pR, kx_pA, kx_pV, kx_s1, kx_s2, kx_sl, kx_pre, kx_c2, kx_pl, kx_cmp, kx_oF, kx_eqN, kx_nil, kx_c1, kx_ft, kx_aI, kx_aL, kx_aR, kx_ln, Nat.reduceAdd, Option.toList, List.cons_append, List.nil_append, cf5_5, cf5_8, cf5_6, cf5_9, cf5_7])
        repeat' apply And.intro
        all_goals try (first | with_reducible assumption | (with_reducible refine ck_nzI ?_; simp; done) | (with_reducible refine ck_nzL ?_; simp; done) | (with_reducible refine vp_in_nI ?_ ?_ <;> first | omega | decide) | (with_reducible refine Nat.le_of_ble_eq_true ?_; rfl) | omega)
        refine hC.2.1 55 _ _ _ _ _ _ _ _ _ _ _ _ _ _ _ _ _ lX5_55 (ct_J9_floorDiv_f86c9 l G (cx_ne0 (by assumption))) rfl rfl (Nat.le_of_ble_eq_true rfl) (by decide) (by decide) (by omega) (by omega) dX5_errorAt_69 ?_
        refine hB bX5_errorAt_72 _ _ _ _ _ _ _ kX5_errorAt_72 ?_
        dsimp only [bX5_errorAt_72, kx_wp, kx_step, kx_lI, kx_lL, kx_lA, kx_gl, kx_pI, kx_pL, kx_pR, kx_pA, kx_pV, kx_s1, kx_s2, kx_sl, kx_pre, kx_c2, kx_pl, kx_cmp, kx_oF, kx_eqN, kx_nil, kx_c1, kx_ft, kx_aI, kx_aL, kx_aR, kx_ln, Nat.reduceAdd, Option.toList, List.cons_append, List.nil_append, cf5_5, cf5_8, cf5_6, cf5_9, cf5_7]
        repeat (simp only [hO, ks_eq, ks_ss]; try dsimp only [kx_wp, kx_step, kx_lI, kx_lL, kx_lA, kx_gl, kx_pI, kx_pL, kx_pR, kx_pA, kx_pV, kx_s1, kx_s2, kx_sl, kx_pre, kx_c2, kx_pl, kx_cmp, kx_oF, kx_eqN, kx_nil, kx_c1, kx_ft, kx_aI, kx_aL, kx_aR, kx_ln, Nat.reduceAdd, Option.toList, List.cons_append, List.nil_append, cf5_5, cf5_8, cf5_6, cf5_9, cf5_7])
        all_goals (repeat' apply And.intro)
        all_goals ((try clear hB hC); first | exact True.intro | with_reducible rfl | with_reducible assumption | (with_reducible refine vp_in_nI ?_ ?_ <;> first | omega | decide) | exact Nat.le_of_ble_eq_true rfl | (with_reducible refine ck_nzI ?_; simp; done) | (with_reducible refine ck_nzL ?_; simp; done) | (simp only [pk_us, pk_uLs, cx_ea, ze4, ze16, ze27, ↓reduceIte, not_true_eq_false, not_false_eq_true]; done) | (simp only [cx_ea, ze4, ze16, ze27, ↓reduceIte, not_true_eq_false, not_false_eq_true]; with_reducible rfl) | skip)
      · intro zc27
        with_reducible first | have ze27 := Decidable.not_not.mp zc27 | have ze27 := zc27
        refine hB bX5_errorAt_30 _ _ _ _ _ _ _ kX5_errorAt_30 ?_
        dsimp only [bX5_errorAt_30, kx_wp, kx_step, kx_lI, kx_lL, kx_lA, kx_gl, kx_pI, kx_pL, kx_pR, kx_pA, kx_pV, kx_s1, kx_s2, kx_sl, kx_pre, kx_c2, kx_pl, kx_cmp, kx_oF, kx_eqN, kx_nil, kx_c1, kx_ft, kx_aI, kx_aL, kx_aR, kx_ln, Nat.reduceAdd, Option.toList, List.cons_append, List.nil_append, cf5_5, cf5_8, cf5_6, cf5_9, cf5_7]
        repeat (simp only [hO, ks_eq, ks_ss]; try dsimp only [kx_wp, kx_step, kx_lI, kx_lL, kx_lA, kx_gl, kx_pI, kx_pL, kx_pR, kx_pA, kx_pV, kx_s1, kx_s2, kx_sl, kx_pre, kx_c2, kx_pl, kx_cmp, kx_oF, kx_eqN, kx_nil, kx_c1, kx_ft, kx_aI, kx_aL, kx_aR, kx_ln, Nat.reduceAdd, Option.toList, List.cons_append, List.nil_append, cf5_5, cf5_8, cf5_6, cf5_9, cf5_7])
        all_goals (repeat' apply And.intro)
        all_goals ((try clear hB hC); first | exact True.intro | with_reducible rfl | with_reducible assumption | (with_reducible refine vp_in_nI ?_ ?_ <;> first | omega | decide) | exact Nat.le_of_ble_eq_true rfl | (with_reducible refine ck_nzI ?_; simp; done) | (with_reducible refine ck_nzL ?_; simp; done) | (simp only [pk_us, pk_uLs, cx_ea, ze4, ze16, eq_true ze27, ↓reduceIte, not_true_eq_false, not_false_eq_true]; done) | (simp only [cx_ea, ze4, ze16, eq_true ze27, ↓reduceIte, not_true_eq_false, not_false_eq_true]; with_reducible rfl) | skip)
  · intro zc4
    with_reducible first | have ze4 := Decidable.not_not.mp zc4 | have ze4 := zc4
    refine hB bX5_errorAt_7 _ _ _ _ _ _ _ kX5_errorAt_7 ?_
    dsimp only [bX5_errorAt_7, kx_wp, kx_step, kx_lI, kx_lL, kx_lA, kx_gl, kx_pI, kx_pL, kx_pR, kx_pA, kx_pV, kx_s1, kx_s2, kx_sl, kx_pre, kx_c2, kx_pl, kx_cmp, kx_oF, kx_eqN, kx_nil, kx_c1, kx_ft, kx_aI, kx_aL, kx_aR, kx_ln, Nat.reduceAdd, Option.toList, List.cons_append, List.nil_append, cf5_5, cf5_8, cf5_6, cf5_9, cf5_7]
    repeat (simp only [hO, ks_eq, ks_ss]; try dsimp only [kx_wp, kx_step, kx_lI, kx_lL, kx_lA, kx_gl, kx_pI, kx_pL, kx_pR, kx_pA, kx_pV, kx_s1, kx_s2, kx_sl, kx_pre, kx_c2, kx_pl, kx_cmp, kx_oF, kx_eqN, kx_nil, kx_c1, kx_ft, kx_aI, kx_aL, kx_aR, kx_ln, Nat.reduceAdd, Option.toList, List.cons_append, List.nil_append, cf5_5, cf5_8, cf5_6, cf5_9, cf5_7])
    all_goals (repeat' apply And.intro)
    all_goals ((try clear hB hC); first | exact True.intro | with_reducible rfl | with_reducible assumption | (with_reducible refine vp_in_nI ?_ ?_ <;> first | omega | decide) | exact Nat.le_of_ble_eq_true rfl | (with_reducible refine ck_nzI ?_; simp; done) | (with_reducible refine ck_nzL ?_; simp; done) | (simp only [pk_us, pk_uLs, cx_ea, eq_true ze4, ↓reduceIte, not_true_eq_false, not_false_eq_true]; done) | (simp only [cx_ea, eq_true ze4, ↓reduceIte, not_true_eq_false, not_false_eq_true]; with_reducible rfl) | skip)

def bX5_rateReckoned_0 : List kx_O := [(.aload_n 0, 0, 0, 0, .null), (.getfield 28, 5, 5, 0, .null), (.iconst 2, 0, 0, 0, .int 2), (.if_icmp .lt 14, 19, 0, 0, .null)]
theorem kX5_rateReckoned_0 : kx_oks kxL_X5 false cX5_rateReckoned 0 bX5_rateReckoned_0 = true := by decide +kernel
def bX5_rateReckoned_8 : List kx_O := [(.aload_n 0, 0, 0, 0, .null), (.getfield 37, 5, 8, 0, .null), (.aload_n 0, 0, 0, 0, .null), (.getfield 31, 5, 6, 0, .null), (.if_icmp .ne 7, 23, 0, 0, .null)]
theorem kX5_rateReckoned_8 : kx_oks kxL_X5 false cX5_rateReckoned 8 bX5_rateReckoned_8 = true := by decide +kernel
def bX5_rateReckoned_19 : List kx_O := [(.ldc2_w 53, 0, 0, 0, .long (-2000000000)), (.lreturn, 0, 0, 0, .null)]
theorem kX5_rateReckoned_19 : kx_oks kxL_X5 false cX5_rateReckoned 19 bX5_rateReckoned_19 = true := by decide +kernel
def bX5_rateReckoned_23 : List kx_O := [(.aload_n 0, 0, 0, 0, .null), (.getfield 40, 5, 9, 0, .null), (.aload_n 0, 0, 0, 0, .null), (.getfield 34, 5, 7, 0, .null), (.isub, 0, 0, 0, .null), (.i2l, 0, 0, 0, .null), (.ldc2_w 59, 0, 0, 0, .long (1000)), (.lmul, 0, 0, 0, .null), (.ldc2_w 61, 0, 0, 0, .long (60)), (.aload_n 0, 0, 0, 0, .null), (.getfield 37, 5, 8, 0, .null), (.aload_n 0, 0, 0, 0, .null), (.getfield 31, 5, 6, 0, .null), (.isub, 0, 0, 0, .null), (.i2l, 0, 0, 0, .null), (.lmul, 0, 0, 0, .null)]
theorem kX5_rateReckoned_23 : kx_oks kxL_X5 false cX5_rateReckoned 23 bX5_rateReckoned_23 = true := by decide +kernel
def bX5_rateReckoned_54 : List kx_O := [(.lreturn, 0, 0, 0, .null)]
theorem kX5_rateReckoned_54 : kx_oks kxL_X5 false cX5_rateReckoned 54 bX5_rateReckoned_54 = true := by decide +kernel
theorem dX5_rateReckoned_51 : decode cX5_rateReckoned 51 = .ok (.invokestatic 55, 3) := by decide +kernel
set_option maxRecDepth 100000 in
set_option maxHeartbeats 4000000 in
theorem ct_X5_rateReckoned (l : Launch) (G : kx_G) {P : kx_P} {sz : Nat} {F : Nat → Int32} (hO : P 84 = kO 5 (kf cr5 F))  : kx_M l G sX5_rateReckoned 2 0 0 [.ref 84] P sz (some (.long (cx_rr F))) P sz := by
  refine kx_mk kx_tab kxLok_X5 (ini := false) [some (.ref 84)] ⟨by decide, rfl, by decide, by decide⟩ (⟨_, rfl⟩) rfl rfl (fun g hB hC => ?_)
  refine hB bX5_rateReckoned_0 _ _ _ _ _ _ _ kX5_rateReckoned_0 ?_
  dsimp only [bX5_rateReckoned_0, kx_wp, kx_step, kx_lI, kx_lL, kx_lA, kx_gl, kx_pI, kx_pL, kx_pR, kx_pA, kx_pV, kx_s1, kx_s2, kx_sl, kx_pre, kx_c2, kx_pl, kx_cmp, kx_oF, kx_eqN, kx_nil, kx_c1, kx_ft, kx_aI, kx_aL, kx_aR, kx_ln, Nat.reduceAdd, Option.toList, List.cons_append, List.nil_append, cf5_5, cf5_8, cf5_6, cf5_9, cf5_7]
  repeat (simp only [hO, ks_eq, ks_ss]; try dsimp only [kx_wp, kx_step, kx_lI, kx_lL, kx_lA, kx_gl, kx_pI, kx_pL, kx_pR, kx_pA, kx_pV, kx_s1, kx_s2, kx_sl, kx_pre, kx_c2, kx_pl, kx_cmp, kx_oF, kx_eqN, kx_nil, kx_c1, kx_ft, kx_aI, kx_aL, kx_aR, kx_ln, Nat.reduceAdd, Option.toList, List.cons_append, List.nil_append, cf5_5, cf5_8, cf5_6, cf5_9, cf5_7])
  repeat' apply And.intro
  all_goals try (first | with_reducible assumption | (with_reducible refine ck_nzI ?_; simp; done) | (with_reducible refine ck_nzL ?_; simp; done) | (with_reducible refine vp_in_nI ?_ ?_ <;> first | omega | decide) | (with_reducible refine Nat.le_of_ble_eq_true ?_; rfl) | omega)
  · intro zc5
    with_reducible first | have ze5 := Int32.not_le.mpr zc5 | have ze5 := zc5
    refine hB bX5_rateReckoned_19 _ _ _ _ _ _ _ kX5_rateReckoned_19 ?_
    dsimp only [bX5_rateReckoned_19, kx_wp, kx_step, kx_lI, kx_lL, kx_lA, kx_gl, kx_pI, kx_pL, kx_pR, kx_pA, kx_pV, kx_s1, kx_s2, kx_sl, kx_pre, kx_c2, kx_pl, kx_cmp, kx_oF, kx_eqN, kx_nil, kx_c1, kx_ft, kx_aI, kx_aL, kx_aR, kx_ln, Nat.reduceAdd, Option.toList, List.cons_append, List.nil_append, cf5_5, cf5_8, cf5_6, cf5_9, cf5_7]
    repeat (simp only [hO, ks_eq, ks_ss]; try dsimp only [kx_wp, kx_step, kx_lI, kx_lL, kx_lA, kx_gl, kx_pI, kx_pL, kx_pR, kx_pA, kx_pV, kx_s1, kx_s2, kx_sl, kx_pre, kx_c2, kx_pl, kx_cmp, kx_oF, kx_eqN, kx_nil, kx_c1, kx_ft, kx_aI, kx_aL, kx_aR, kx_ln, Nat.reduceAdd, Option.toList, List.cons_append, List.nil_append, cf5_5, cf5_8, cf5_6, cf5_9, cf5_7])
    all_goals (repeat' apply And.intro)
    all_goals ((try clear hB hC); first | exact True.intro | with_reducible rfl | with_reducible assumption | (with_reducible refine vp_in_nI ?_ ?_ <;> first | omega | decide) | exact Nat.le_of_ble_eq_true rfl | (with_reducible refine ck_nzI ?_; simp; done) | (with_reducible refine ck_nzL ?_; simp; done) | (simp only [pk_us, pk_uLs, cx_rr, zc5, ze5, ↓reduceIte, not_true_eq_false, not_false_eq_true]; done) | (simp only [cx_rr, zc5, ze5, ↓reduceIte, not_true_eq_false, not_false_eq_true]; with_reducible rfl) | skip)
  · intro zc5
    with_reducible first | have ze5 := Int32.not_lt.mp zc5 | have ze5 := zc5
    refine hB bX5_rateReckoned_8 _ _ _ _ _ _ _ kX5_rateReckoned_8 ?_
    dsimp only [bX5_rateReckoned_8, kx_wp, kx_step, kx_lI, kx_lL, kx_lA, kx_gl, kx_pI, kx_pL, kx_pR, kx_pA, kx_pV, kx_s1, kx_s2, kx_sl, kx_pre, kx_c2, kx_pl, kx_cmp, kx_oF, kx_eqN, kx_nil, kx_c1, kx_ft, kx_aI, kx_aL, kx_aR, kx_ln, Nat.reduceAdd, Option.toList, List.cons_append, List.nil_append, cf5_5, cf5_8, cf5_6, cf5_9, cf5_7]
    repeat (simp only [hO, ks_eq, ks_ss]; try dsimp only [kx_wp, kx_step, kx_lI, kx_lL, kx_lA, kx_gl, kx_pI, kx_pL, kx_pR, kx_pA, kx_pV, kx_s1, kx_s2, kx_sl, kx_pre, kx_c2, kx_pl, kx_cmp, kx_oF, kx_eqN, kx_nil, kx_c1, kx_ft, kx_aI, kx_aL, kx_aR, kx_ln, Nat.reduceAdd, Option.toList, List.cons_append, List.nil_append, cf5_5, cf5_8, cf5_6, cf5_9, cf5_7])
    repeat' apply And.intro
    all_goals try (first | with_reducible assumption | (with_reducible refine ck_nzI ?_; simp; done) | (with_reducible refine ck_nzL ?_; simp; done) | (with_reducible refine vp_in_nI ?_ ?_ <;> first | omega | decide) | (with_reducible refine Nat.le_of_ble_eq_true ?_; rfl) | omega)
    · intro zc16
      have ze16 := zc16
      refine hB bX5_rateReckoned_23 _ _ _ _ _ _ _ kX5_rateReckoned_23 ?_
      dsimp only [bX5_rateReckoned_23, kx_wp, kx_step, kx_lI, kx_lL, kx_lA, kx_gl, kx_pI, kx_pL, kx_pR, kx_pA, kx_pV, kx_s1, kx_s2, kx_sl, kx_pre, kx_c2, kx_pl, kx_cmp, kx_oF, kx_eqN, kx_nil, kx_c1, kx_ft, kx_aI, kx_aL, kx_aR, kx_ln, Nat.reduceAdd, Option.toList, List.cons_append, List.nil_append, cf5_5, cf5_8, cf5_6, cf5_9, cf5_7]
      repeat (simp only [hO, ks_eq, ks_ss]; try dsimp only [kx_wp, kx_step, kx_lI, kx_lL, kx_lA, kx_gl, kx_pI, kx_pL, kx_pR, kx_pA, kx_pV, kx_s1, kx_s2, kx_sl, kx_pre, kx_c2, kx_pl, kx_cmp, kx_oF, kx_eqN, kx_nil, kx_c1, kx_ft, kx_aI, kx_aL, kx_aR, kx_ln, Nat.reduceAdd, Option.toList, List.cons_append, List.nil_append, cf5_5, cf5_8, cf5_6, cf5_9, cf5_7])
      repeat' apply And.intro
      all_goals try (first | with_reducible assumption | (with_reducible refine ck_nzI ?_; simp; done) | (with_reducible refine ck_nzL ?_; simp; done) | (with_reducible refine vp_in_nI ?_ ?_ <;> first | omega | decide) | (with_reducible refine Nat.le_of_ble_eq_true ?_; rfl) | omega)
      refine hC.2.1 55 _ _ _ _ _ _ _ _ _ _ _ _ _ _ _ _ _ lX5_55 (ct_J9_floorDiv_f86c9 l G (cx_ne60 (by assumption))) rfl rfl (Nat.le_of_ble_eq_true rfl) (by decide) (by decide) (by omega) (by omega) dX5_rateReckoned_51 ?_
      refine hB bX5_rateReckoned_54 _ _ _ _ _ _ _ kX5_rateReckoned_54 ?_
      dsimp only [bX5_rateReckoned_54, kx_wp, kx_step, kx_lI, kx_lL, kx_lA, kx_gl, kx_pI, kx_pL, kx_pR, kx_pA, kx_pV, kx_s1, kx_s2, kx_sl, kx_pre, kx_c2, kx_pl, kx_cmp, kx_oF, kx_eqN, kx_nil, kx_c1, kx_ft, kx_aI, kx_aL, kx_aR, kx_ln, Nat.reduceAdd, Option.toList, List.cons_append, List.nil_append, cf5_5, cf5_8, cf5_6, cf5_9, cf5_7]
      repeat (simp only [hO, ks_eq, ks_ss]; try dsimp only [kx_wp, kx_step, kx_lI, kx_lL, kx_lA, kx_gl, kx_pI, kx_pL, kx_pR, kx_pA, kx_pV, kx_s1, kx_s2, kx_sl, kx_pre, kx_c2, kx_pl, kx_cmp, kx_oF, kx_eqN, kx_nil, kx_c1, kx_ft, kx_aI, kx_aL, kx_aR, kx_ln, Nat.reduceAdd, Option.toList, List.cons_append, List.nil_append, cf5_5, cf5_8, cf5_6, cf5_9, cf5_7])
      all_goals (repeat' apply And.intro)
      all_goals ((try clear hB hC); first | exact True.intro | with_reducible rfl | with_reducible assumption | (with_reducible refine vp_in_nI ?_ ?_ <;> first | omega | decide) | exact Nat.le_of_ble_eq_true rfl | (with_reducible refine ck_nzI ?_; simp; done) | (with_reducible refine ck_nzL ?_; simp; done) | (simp only [pk_us, pk_uLs, cx_rr, zc5, ze5, ze16, ↓reduceIte, not_true_eq_false, not_false_eq_true]; done) | (simp only [cx_rr, zc5, ze5, ze16, ↓reduceIte, not_true_eq_false, not_false_eq_true]; with_reducible rfl) | skip)
    · intro zc16
      with_reducible first | have ze16 := Decidable.not_not.mp zc16 | have ze16 := zc16
      refine hB bX5_rateReckoned_19 _ _ _ _ _ _ _ kX5_rateReckoned_19 ?_
      dsimp only [bX5_rateReckoned_19, kx_wp, kx_step, kx_lI, kx_lL, kx_lA, kx_gl, kx_pI, kx_pL, kx_pR, kx_pA, kx_pV, kx_s1, kx_s2, kx_sl, kx_pre, kx_c2, kx_pl, kx_cmp, kx_oF, kx_eqN, kx_nil, kx_c1, kx_ft, kx_aI, kx_aL, kx_aR, kx_ln, Nat.reduceAdd, Option.toList, List.cons_append, List.nil_append, cf5_5, cf5_8, cf5_6, cf5_9, cf5_7]
      repeat (simp only [hO, ks_eq, ks_ss]; try dsimp only [kx_wp, kx_step, kx_lI, kx_lL, kx_lA, kx_gl, kx_pI, kx_pL, kx_pR, kx_pA, kx_pV, kx_s1, kx_s2, kx_sl, kx_pre, kx_c2, kx_pl, kx_cmp, kx_oF, kx_eqN, kx_nil, kx_c1, kx_ft, kx_aI, kx_aL, kx_aR, kx_ln, Nat.reduceAdd, Option.toList, List.cons_append, List.nil_append, cf5_5, cf5_8, cf5_6, cf5_9, cf5_7])
      all_goals (repeat' apply And.intro)
      all_goals ((try clear hB hC); first | exact True.intro | with_reducible rfl | with_reducible assumption | (with_reducible refine vp_in_nI ?_ ?_ <;> first | omega | decide) | exact Nat.le_of_ble_eq_true rfl | (with_reducible refine ck_nzI ?_; simp; done) | (with_reducible refine ck_nzL ?_; simp; done) | (simp only [pk_us, pk_uLs, cx_rr, zc5, ze5, eq_true ze16, ↓reduceIte, not_true_eq_false, not_false_eq_true]; done) | (simp only [cx_rr, zc5, ze5, eq_true ze16, ↓reduceIte, not_true_eq_false, not_false_eq_true]; with_reducible rfl) | skip)

def bX5_isBeyond_0 : List kx_O := [(.aload_n 0, 0, 0, 0, .null), (.iload_n 1, 1, 0, 0, .null)]
theorem kX5_isBeyond_0 : kx_oks kxL_X5 false cX5_isBeyond 0 bX5_isBeyond_0 = true := by decide +kernel
def bX5_isBeyond_5 : List kx_O := [(.lstore_n 3, 3, 0, 0, .null), (.lload_n 3, 3, 0, 0, .null), (.iload_n 2, 2, 0, 0, .null), (.i2l, 0, 0, 0, .null), (.lcmp, 0, 0, 0, .null), (.ifCond .gt 11, 21, 0, 0, .null)]
theorem kX5_isBeyond_5 : kx_oks kxL_X5 false cX5_isBeyond 5 bX5_isBeyond_5 = true := by decide +kernel
def bX5_isBeyond_13 : List kx_O := [(.lload_n 3, 3, 0, 0, .null), (.iload_n 2, 2, 0, 0, .null), (.ineg, 0, 0, 0, .null), (.i2l, 0, 0, 0, .null), (.lcmp, 0, 0, 0, .null), (.ifCond .ge 7, 25, 0, 0, .null)]
theorem kX5_isBeyond_13 : kx_oks kxL_X5 false cX5_isBeyond 13 bX5_isBeyond_13 = true := by decide +kernel
def bX5_isBeyond_21 : List kx_O := [(.iconst 1, 0, 0, 0, .int 1), (.goto 4, 26, 0, 0, .null)]
theorem kX5_isBeyond_21 : kx_oks kxL_X5 false cX5_isBeyond 21 bX5_isBeyond_21 = true := by decide +kernel
def bX5_isBeyond_25 : List kx_O := [(.iconst 0, 0, 0, 0, .int 0)]
theorem kX5_isBeyond_25 : kx_oks kxL_X5 false cX5_isBeyond 25 bX5_isBeyond_25 = true := by decide +kernel
def bX5_isBeyond_26 : List kx_O := [(.ireturn, 0, 0, 0, .null)]
theorem kX5_isBeyond_26 : kx_oks kxL_X5 false cX5_isBeyond 26 bX5_isBeyond_26 = true := by decide +kernel
theorem dX5_isBeyond_2 : decode cX5_isBeyond 2 = .ok (.invokevirtual 63, 3) := by decide +kernel
set_option maxRecDepth 100000 in
set_option maxHeartbeats 4000000 in
theorem ct_X5_isBeyond (l : Launch) (G : kx_G) {P : kx_P} {sz : Nat} {F : Nat → Int32} (hO : P 84 = kO 5 (kf cr5 F)) {m v : Int32}  : kx_M l G sX5_isBeyond 3 0 0 [.ref 84, .int (m), .int (v)] P sz (some (.int (cx_be F m v))) P sz := by
  refine kx_mk kx_tab kxLok_X5 (ini := false) [some (.ref 84), some (.int (m)), some (.int (v)), none, none] ⟨by decide, rfl, by decide, by decide⟩ (by unfold cx_be; split <;> (try split) <;> first | exact Or.inl rfl | exact Or.inr rfl) rfl rfl (fun g hB hC => ?_)
  refine hB bX5_isBeyond_0 _ _ _ _ _ _ _ kX5_isBeyond_0 ?_
  dsimp only [bX5_isBeyond_0, kx_wp, kx_step, kx_lI, kx_lL, kx_lA, kx_gl, kx_pI, kx_pL, kx_pR, kx_pA, kx_pV, kx_s1, kx_s2, kx_sl, kx_pre, kx_c2, kx_pl, kx_cmp, kx_oF, kx_eqN, kx_nil, kx_c1, kx_ft, kx_aI, kx_aL, kx_aR, kx_ln, Nat.reduceAdd, Option.toList, List.cons_append, List.nil_append]
  repeat (simp only [hO, lg_cmp_ge, lg_cmp_le, lg_cmp_gt, lg_cmp_lt, lg_cmp_eq, ks_eq, ks_ss]; try dsimp only [kx_wp, kx_step, kx_lI, kx_lL, kx_lA, kx_gl, kx_pI, kx_pL, kx_pR, kx_pA, kx_pV, kx_s1, kx_s2, kx_sl, kx_pre, kx_c2, kx_pl, kx_cmp, kx_oF, kx_eqN, kx_nil, kx_c1, kx_ft, kx_aI, kx_aL, kx_aR, kx_ln, Nat.reduceAdd, Option.toList, List.cons_append, List.nil_append])
  repeat' apply And.intro
  all_goals try (first | with_reducible assumption | (with_reducible refine ck_nzI ?_; simp; done) | (with_reducible refine ck_nzL ?_; simp; done) | (with_reducible refine vp_in_nI ?_ ?_ <;> first | omega | decide) | (with_reducible refine Nat.le_of_ble_eq_true ?_; rfl) | omega)
  refine hC.1 63 _ _ _ _ _ _ _ 5 _ _ _ _ _ _ _ _ _ _ _ _ lX5_63 (ct_X5_errorAt l G hO) ⟨by decide, rfl⟩ (by first | assumption | (simp only [hO, lg_cmp_ge, lg_cmp_le, lg_cmp_gt, lg_cmp_lt, lg_cmp_eq, ks_eq, ks_ss])) rfl rfl (Nat.le_of_ble_eq_true rfl) (by decide) (by decide) (by omega) (by omega) dX5_isBeyond_2 ?_
  refine hB bX5_isBeyond_5 _ _ _ _ _ _ _ kX5_isBeyond_5 ?_
  dsimp only [bX5_isBeyond_5, kx_wp, kx_step, kx_lI, kx_lL, kx_lA, kx_gl, kx_pI, kx_pL, kx_pR, kx_pA, kx_pV, kx_s1, kx_s2, kx_sl, kx_pre, kx_c2, kx_pl, kx_cmp, kx_oF, kx_eqN, kx_nil, kx_c1, kx_ft, kx_aI, kx_aL, kx_aR, kx_ln, Nat.reduceAdd, Option.toList, List.cons_append, List.nil_append]
  repeat (simp only [hO, lg_cmp_ge, lg_cmp_le, lg_cmp_gt, lg_cmp_lt, lg_cmp_eq, ks_eq, ks_ss]; try dsimp only [kx_wp, kx_step, kx_lI, kx_lL, kx_lA, kx_gl, kx_pI, kx_pL, kx_pR, kx_pA, kx_pV, kx_s1, kx_s2, kx_sl, kx_pre, kx_c2, kx_pl, kx_cmp, kx_oF, kx_eqN, kx_nil, kx_c1, kx_ft, kx_aI, kx_aL, kx_aR, kx_ln, Nat.reduceAdd, Option.toList, List.cons_append, List.nil_append])
  repeat' apply And.intro
  all_goals try (first | with_reducible assumption | (with_reducible refine ck_nzI ?_; simp; done) | (with_reducible refine ck_nzL ?_; simp; done) | (with_reducible refine vp_in_nI ?_ ?_ <;> first | omega | decide) | (with_reducible refine Nat.le_of_ble_eq_true ?_; rfl) | omega)
  · intro zc10
    with_reducible first | have ze10 := Int64.not_le.mpr zc10 | have ze10 := zc10
    refine hB bX5_isBeyond_21 _ _ _ _ _ _ _ kX5_isBeyond_21 ?_
    dsimp only [bX5_isBeyond_21, kx_wp, kx_step, kx_lI, kx_lL, kx_lA, kx_gl, kx_pI, kx_pL, kx_pR, kx_pA, kx_pV, kx_s1, kx_s2, kx_sl, kx_pre, kx_c2, kx_pl, kx_cmp, kx_oF, kx_eqN, kx_nil, kx_c1, kx_ft, kx_aI, kx_aL, kx_aR, kx_ln, Nat.reduceAdd, Option.toList, List.cons_append, List.nil_append]
    repeat (simp only [hO, lg_cmp_ge, lg_cmp_le, lg_cmp_gt, lg_cmp_lt, lg_cmp_eq, ks_eq, ks_ss]; try dsimp only [kx_wp, kx_step, kx_lI, kx_lL, kx_lA, kx_gl, kx_pI, kx_pL, kx_pR, kx_pA, kx_pV, kx_s1, kx_s2, kx_sl, kx_pre, kx_c2, kx_pl, kx_cmp, kx_oF, kx_eqN, kx_nil, kx_c1, kx_ft, kx_aI, kx_aL, kx_aR, kx_ln, Nat.reduceAdd, Option.toList, List.cons_append, List.nil_append])
    repeat' apply And.intro
    all_goals try (first | with_reducible assumption | (with_reducible refine ck_nzI ?_; simp; done) | (with_reducible refine ck_nzL ?_; simp; done) | (with_reducible refine vp_in_nI ?_ ?_ <;> first | omega | decide) | (with_reducible refine Nat.le_of_ble_eq_true ?_; rfl) | omega)
    refine hB bX5_isBeyond_26 _ _ _ _ _ _ _ kX5_isBeyond_26 ?_
    dsimp only [bX5_isBeyond_26, kx_wp, kx_step, kx_lI, kx_lL, kx_lA, kx_gl, kx_pI, kx_pL, kx_pR, kx_pA, kx_pV, kx_s1, kx_s2, kx_sl, kx_pre, kx_c2, kx_pl, kx_cmp, kx_oF, kx_eqN, kx_nil, kx_c1, kx_ft, kx_aI, kx_aL, kx_aR, kx_ln, Nat.reduceAdd, Option.toList, List.cons_append, List.nil_append]
    repeat (simp only [hO, lg_cmp_ge, lg_cmp_le, lg_cmp_gt, lg_cmp_lt, lg_cmp_eq, ks_eq, ks_ss]; try dsimp only [kx_wp, kx_step, kx_lI, kx_lL, kx_lA, kx_gl, kx_pI, kx_pL, kx_pR, kx_pA, kx_pV, kx_s1, kx_s2, kx_sl, kx_pre, kx_c2, kx_pl, kx_cmp, kx_oF, kx_eqN, kx_nil, kx_c1, kx_ft, kx_aI, kx_aL, kx_aR, kx_ln, Nat.reduceAdd, Option.toList, List.cons_append, List.nil_append])
    all_goals (repeat' apply And.intro)
    all_goals ((try clear hB hC); first | exact True.intro | with_reducible rfl | with_reducible assumption | (with_reducible refine vp_in_nI ?_ ?_ <;> first | omega | decide) | exact Nat.le_of_ble_eq_true rfl | (with_reducible refine ck_nzI ?_; simp; done) | (with_reducible refine ck_nzL ?_; simp; done) | (simp only [pk_us, pk_uLs, cx_be, zc10, ze10, ↓reduceIte, not_true_eq_false, not_false_eq_true]; done) | (simp only [cx_be, zc10, ze10, ↓reduceIte, not_true_eq_false, not_false_eq_true]; with_reducible rfl) | skip)
  · intro zc10
    with_reducible first | have ze10 := Int64.not_lt.mp zc10 | have ze10 := zc10
    refine hB bX5_isBeyond_13 _ _ _ _ _ _ _ kX5_isBeyond_13 ?_
    dsimp only [bX5_isBeyond_13, kx_wp, kx_step, kx_lI, kx_lL, kx_lA, kx_gl, kx_pI, kx_pL, kx_pR, kx_pA, kx_pV, kx_s1, kx_s2, kx_sl, kx_pre, kx_c2, kx_pl, kx_cmp, kx_oF, kx_eqN, kx_nil, kx_c1, kx_ft, kx_aI, kx_aL, kx_aR, kx_ln, Nat.reduceAdd, Option.toList, List.cons_append, List.nil_append]
    repeat (simp only [hO, lg_cmp_ge, lg_cmp_le, lg_cmp_gt, lg_cmp_lt, lg_cmp_eq, ks_eq, ks_ss]; try dsimp only [kx_wp, kx_step, kx_lI, kx_lL, kx_lA, kx_gl, kx_pI, kx_pL, kx_pR, kx_pA, kx_pV, kx_s1, kx_s2, kx_sl, kx_pre, kx_c2, kx_pl, kx_cmp, kx_oF, kx_eqN, kx_nil, kx_c1, kx_ft, kx_aI, kx_aL, kx_aR, kx_ln, Nat.reduceAdd, Option.toList, List.cons_append, List.nil_append])
    repeat' apply And.intro
    all_goals try (first | with_reducible assumption | (with_reducible refine ck_nzI ?_; simp; done) | (with_reducible refine ck_nzL ?_; simp; done) | (with_reducible refine vp_in_nI ?_ ?_ <;> first | omega | decide) | (with_reducible refine Nat.le_of_ble_eq_true ?_; rfl) | omega)
    · intro zc18
      with_reducible first | have ze18 := Int64.not_lt.mpr zc18 | have ze18 := zc18
      refine hB bX5_isBeyond_25 _ _ _ _ _ _ _ kX5_isBeyond_25 ?_
      dsimp only [bX5_isBeyond_25, kx_wp, kx_step, kx_lI, kx_lL, kx_lA, kx_gl, kx_pI, kx_pL, kx_pR, kx_pA, kx_pV, kx_s1, kx_s2, kx_sl, kx_pre, kx_c2, kx_pl, kx_cmp, kx_oF, kx_eqN, kx_nil, kx_c1, kx_ft, kx_aI, kx_aL, kx_aR, kx_ln, Nat.reduceAdd, Option.toList, List.cons_append, List.nil_append]
      repeat (simp only [hO, lg_cmp_ge, lg_cmp_le, lg_cmp_gt, lg_cmp_lt, lg_cmp_eq, ks_eq, ks_ss]; try dsimp only [kx_wp, kx_step, kx_lI, kx_lL, kx_lA, kx_gl, kx_pI, kx_pL, kx_pR, kx_pA, kx_pV, kx_s1, kx_s2, kx_sl, kx_pre, kx_c2, kx_pl, kx_cmp, kx_oF, kx_eqN, kx_nil, kx_c1, kx_ft, kx_aI, kx_aL, kx_aR, kx_ln, Nat.reduceAdd, Option.toList, List.cons_append, List.nil_append])
      repeat' apply And.intro
      all_goals try (first | with_reducible assumption | (with_reducible refine ck_nzI ?_; simp; done) | (with_reducible refine ck_nzL ?_; simp; done) | (with_reducible refine vp_in_nI ?_ ?_ <;> first | omega | decide) | (with_reducible refine Nat.le_of_ble_eq_true ?_; rfl) | omega)
      refine hB bX5_isBeyond_26 _ _ _ _ _ _ _ kX5_isBeyond_26 ?_
      dsimp only [bX5_isBeyond_26, kx_wp, kx_step, kx_lI, kx_lL, kx_lA, kx_gl, kx_pI, kx_pL, kx_pR, kx_pA, kx_pV, kx_s1, kx_s2, kx_sl, kx_pre, kx_c2, kx_pl, kx_cmp, kx_oF, kx_eqN, kx_nil, kx_c1, kx_ft, kx_aI, kx_aL, kx_aR, kx_ln, Nat.reduceAdd, Option.toList, List.cons_append, List.nil_append]
      repeat (simp only [hO, lg_cmp_ge, lg_cmp_le, lg_cmp_gt, lg_cmp_lt, lg_cmp_eq, ks_eq, ks_ss]; try dsimp only [kx_wp, kx_step, kx_lI, kx_lL, kx_lA, kx_gl, kx_pI, kx_pL, kx_pR, kx_pA, kx_pV, kx_s1, kx_s2, kx_sl, kx_pre, kx_c2, kx_pl, kx_cmp, kx_oF, kx_eqN, kx_nil, kx_c1, kx_ft, kx_aI, kx_aL, kx_aR, kx_ln, Nat.reduceAdd, Option.toList, List.cons_append, List.nil_append])
      all_goals (repeat' apply And.intro)
      all_goals ((try clear hB hC); first | exact True.intro | with_reducible rfl | with_reducible assumption | (with_reducible refine vp_in_nI ?_ ?_ <;> first | omega | decide) | exact Nat.le_of_ble_eq_true rfl | (with_reducible refine ck_nzI ?_; simp; done) | (with_reducible refine ck_nzL ?_; simp; done) | (simp only [pk_us, pk_uLs, cx_be, zc10, ze10, zc18, ze18, ↓reduceIte, not_true_eq_false, not_false_eq_true]; done) | (simp only [cx_be, zc10, ze10, zc18, ze18, ↓reduceIte, not_true_eq_false, not_false_eq_true]; with_reducible rfl) | skip)
    · intro zc18
      with_reducible first | have ze18 := Int64.not_le.mp zc18 | have ze18 := zc18
      refine hB bX5_isBeyond_21 _ _ _ _ _ _ _ kX5_isBeyond_21 ?_
      dsimp only [bX5_isBeyond_21, kx_wp, kx_step, kx_lI, kx_lL, kx_lA, kx_gl, kx_pI, kx_pL, kx_pR, kx_pA, kx_pV, kx_s1, kx_s2, kx_sl, kx_pre, kx_c2, kx_pl, kx_cmp, kx_oF, kx_eqN, kx_nil, kx_c1, kx_ft, kx_aI, kx_aL, kx_aR, kx_ln, Nat.reduceAdd, Option.toList, List.cons_append, List.nil_append]
      repeat (simp only [hO, lg_cmp_ge, lg_cmp_le, lg_cmp_gt, lg_cmp_lt, lg_cmp_eq, ks_eq, ks_ss]; try dsimp only [kx_wp, kx_step, kx_lI, kx_lL, kx_lA, kx_gl, kx_pI, kx_pL, kx_pR, kx_pA, kx_pV, kx_s1, kx_s2, kx_sl, kx_pre, kx_c2, kx_pl, kx_cmp, kx_oF, kx_eqN, kx_nil, kx_c1, kx_ft, kx_aI, kx_aL, kx_aR, kx_ln, Nat.reduceAdd, Option.toList, List.cons_append, List.nil_append])
      repeat' apply And.intro
      all_goals try (first | with_reducible assumption | (with_reducible refine ck_nzI ?_; simp; done) | (with_reducible refine ck_nzL ?_; simp; done) | (with_reducible refine vp_in_nI ?_ ?_ <;> first | omega | decide) | (with_reducible refine Nat.le_of_ble_eq_true ?_; rfl) | omega)
      refine hB bX5_isBeyond_26 _ _ _ _ _ _ _ kX5_isBeyond_26 ?_
      dsimp only [bX5_isBeyond_26, kx_wp, kx_step, kx_lI, kx_lL, kx_lA, kx_gl, kx_pI, kx_pL, kx_pR, kx_pA, kx_pV, kx_s1, kx_s2, kx_sl, kx_pre, kx_c2, kx_pl, kx_cmp, kx_oF, kx_eqN, kx_nil, kx_c1, kx_ft, kx_aI, kx_aL, kx_aR, kx_ln, Nat.reduceAdd, Option.toList, List.cons_append, List.nil_append]
      repeat (simp only [hO, lg_cmp_ge, lg_cmp_le, lg_cmp_gt, lg_cmp_lt, lg_cmp_eq, ks_eq, ks_ss]; try dsimp only [kx_wp, kx_step, kx_lI, kx_lL, kx_lA, kx_gl, kx_pI, kx_pL, kx_pR, kx_pA, kx_pV, kx_s1, kx_s2, kx_sl, kx_pre, kx_c2, kx_pl, kx_cmp, kx_oF, kx_eqN, kx_nil, kx_c1, kx_ft, kx_aI, kx_aL, kx_aR, kx_ln, Nat.reduceAdd, Option.toList, List.cons_append, List.nil_append])
      all_goals (repeat' apply And.intro)
      all_goals ((try clear hB hC); first | exact True.intro | with_reducible rfl | with_reducible assumption | (with_reducible refine vp_in_nI ?_ ?_ <;> first | omega | decide) | exact Nat.le_of_ble_eq_true rfl | (with_reducible refine ck_nzI ?_; simp; done) | (with_reducible refine ck_nzL ?_; simp; done) | (simp only [pk_us, pk_uLs, cx_be, zc10, ze10, zc18, ze18, ↓reduceIte, not_true_eq_false, not_false_eq_true]; done) | (simp only [cx_be, zc10, ze10, zc18, ze18, ↓reduceIte, not_true_eq_false, not_false_eq_true]; with_reducible rfl) | skip)


def jW (P : kx_P) (nv : Value) (F NU WS : Nat → Int32) : kx_P := kx_set (kx_set (kx_set P 82 (kI 0 4 NU)) 83 (kI 0 4 WS)) 81 (kO 4 (kf (cr4 nv) F))
section JWS
variable {P : kx_P} {nv : Value} {F NU WS : Nat → Int32}
theorem jW_81 : jW P nv F NU WS 81 = kO 4 (kf (cr4 nv) F) := ks_eq _ _ _
theorem jW_83 : jW P nv F NU WS 83 = kI 0 4 WS := by unfold jW; rw [ks_ne (by decide), ks_eq]
theorem jW_82 : jW P nv F NU WS 82 = kI 0 4 NU := by unfold jW; rw [ks_ne (by decide), ks_ne (by decide), ks_eq]
theorem jW_o {n : Nat} (h1 : ¬ n = 81) (h2 : ¬ n = 82) (h3 : ¬ n = 83) : jW P nv F NU WS n = P n := by unfold jW; rw [ks_ne h1, ks_ne h3, ks_ne h2]
theorem jW_p81 {F2 : Nat → Int32} {n2 : Value} : kx_set (jW P nv F NU WS) 81 (kO 4 (kf (cr4 n2) F2)) = jW P n2 F2 NU WS := ks_ss _ _ _ _
theorem jW_p83 {B2 : Nat → Int32} : kx_set (jW P nv F NU WS) 83 (kI 0 4 B2) = jW P nv F NU B2 := by unfold jW; rw [ks_co _ _ (by decide), ks_ss]
theorem jW_p82 {O2 : Nat → Int32} : kx_set (jW P nv F NU WS) 82 (kI 0 4 O2) = jW P nv F O2 WS := by unfold jW; rw [ks_co _ _ (by decide), ks_co (P := kx_set P 82 _) _ _ (by decide), ks_ss]
theorem jW_n {q : Nat} {x : Option kx_C} (h : ¬ q = 81 ∧ ¬ q = 82 ∧ ¬ q = 83) : kx_set (jW P nv F NU WS) q x = jW (kx_set P q x) nv F NU WS := by
  unfold jW
  rw [ks_co _ _ (fun e => h.1 e.symm), ks_co (P := kx_set P 82 _) _ _ (fun e => h.2.2 e.symm), ks_co (P := P) _ _ (fun e => h.2.1 e.symm)]
end JWS
def cp_js (st : Option Nat) (lf days k : Nat) : Option Nat := if lf = 0 then none else match st with
  | none => none
  | some v => some (v + min ((lf - 1) / 1440) days * 16 ^ k)
theorem cp_uu5 (F : Nat → Int32) (a b c d : Int32) : upd (upd (upd (upd F 5 a) 2 b) 5 c) 2 d = upd (upd F 5 c) 2 d := by
  funext j
  unfold upd
  split
  · rfl
  · split <;> rfl
theorem cp_up5 {F : Nat → Int32} {x : Int32} (h : F 5 = x) : upd F 5 x = F := by rw [← h]; exact ck_upself
def bX4_join_0 : List kx_O := [(.aload_n 2, 2, 0, 0, .null), (.getfield 42, 1, 6, 0, .null), (.iconst 1, 0, 0, 0, .int 1), (.isub, 0, 0, 0, .null), (.sipush 1440, 0, 0, 0, .int 1440), (.idiv, 0, 0, 0, .null), (.istore_n 3, 3, 0, 0, .null), (.aload_n 0, 0, 0, 0, .null), (.getfield 11, 4, 0, 0, .null), (.aload_n 0, 0, 0, 0, .null), (.getfield 18, 4, 2, 0, .null), (.iload_n 1, 1, 0, 0, .null), (.iastore, 0, 0, 0, .null), (.aload_n 0, 0, 0, 0, .null), (.getfield 15, 4, 1, 0, .null), (.aload_n 0, 0, 0, 0, .null), (.getfield 18, 4, 2, 0, .null), (.aload_n 2, 2, 0, 0, .null), (.getfield 47, 1, 2, 0, .null), (.getfield 51, 9, 0, 0, .null), (.iconst 1, 0, 0, 0, .int 1), (.isub, 0, 0, 0, .null), (.iastore, 0, 0, 0, .null), (.aload_n 2, 2, 0, 0, .null), (.getfield 42, 1, 6, 0, .null), (.iconst 1, 0, 0, 0, .int 1), (.if_icmp .ge 11, 55, 0, 0, .null)]
theorem kX4_join_0 : kx_oks kxL_X4 false cX4_join 0 bX4_join_0 = true := by decide +kernel
def bX4_join_47 : List kx_O := [(.aload_n 0, 0, 0, 0, .null), (.iconst (-1), 0, 0, 0, .int (-1)), (.putfield 28, 4, 5, 0, .null), (.goto 35, 87, 0, 0, .null)]
theorem kX4_join_47 : kx_oks kxL_X4 false cX4_join 47 bX4_join_47 = true := by decide +kernel
def bX4_join_55 : List kx_O := [(.aload_n 0, 0, 0, 0, .null), (.getfield 28, 4, 5, 0, .null), (.iconst (-1), 0, 0, 0, .int (-1)), (.if_icmp .eq 27, 87, 0, 0, .null)]
theorem kX4_join_55 : kx_oks kxL_X4 false cX4_join 55 bX4_join_55 = true := by decide +kernel
def bX4_join_63 : List kx_O := [(.aload_n 0, 0, 0, 0, .null), (.dup, 0, 0, 0, .null), (.getfield 28, 4, 5, 0, .null), (.iload_n 3, 3, 0, 0, .null), (.aload_n 0, 0, 0, 0, .null), (.getfield 22, 4, 3, 0, .null)]
theorem kX4_join_63 : kx_oks kxL_X4 false cX4_join 63 bX4_join_63 = true := by decide +kernel
def bX4_join_76 : List kx_O := [(.iconst 4, 0, 0, 0, .int 4), (.aload_n 0, 0, 0, 0, .null), (.getfield 18, 4, 2, 0, .null), (.imul, 0, 0, 0, .null), (.ishl, 0, 0, 0, .null), (.ior, 0, 0, 0, .null), (.putfield 28, 4, 5, 0, .null)]
theorem kX4_join_76 : kx_oks kxL_X4 false cX4_join 76 bX4_join_76 = true := by decide +kernel
def bX4_join_87 : List kx_O := [(.aload_n 0, 0, 0, 0, .null), (.dup, 0, 0, 0, .null), (.getfield 18, 4, 2, 0, .null), (.iconst 1, 0, 0, 0, .int 1), (.iadd, 0, 0, 0, .null), (.putfield 18, 4, 2, 0, .null), (.return_, 0, 0, 0, .null)]
theorem kX4_join_87 : kx_oks kxL_X4 false cX4_join 87 bX4_join_87 = true := by decide +kernel
theorem dX4_join_73 : decode cX4_join 73 = .ok (.invokestatic 56, 3) := by decide +kernel
set_option maxRecDepth 100000 in
set_option maxHeartbeats 4000000 in
theorem ct_X4_join (l : Launch) (G : kx_G) {P : kx_P} {sz : Nat} {c w : Nat} {nv : Value} {F NU WS C V : Nat → Int32} {d : Int64} {h : Value} (hq : P c = kO 1 (kf (cr1 (.ref w) d h) C)) (hw : P w = kO 9 (kf (cr9 w) V)) (hn : 144 ≤ c ∧ 144 ≤ w) {i k lf run days : Nat} {st : Option Nat} (h2 : F 2 = nI k) (hk : k < 4) (h6 : C 6 = nI lf) (hlf : lf ≤ 44640) (h0 : V 0 = nI run) (hrun : 1 ≤ run ∧ run ≤ 31) (h3 : F 3 = nI days) (hd : days ≤ 10) (h5 : F 5 = cp_oi st) (hst : ∀ v, st = some v → v < 16 ^ k)  : kx_M l G sX4_join 2 0 0 [.ref 81, .int (nI i), .ref c] (jW P nv F NU WS) sz none (jW P nv (upd (upd F 5 (cp_oi (cp_js st lf days k))) 2 (nI (k + 1))) (upd NU k (nI i)) (upd WS k (nI (run - 1)))) sz := by
  have q1 : ∀ F NU WS, jW P nv F NU WS c = kO 1 (kf (cr1 (.ref w) d h) C) := fun _ _ _ => (jW_o (by omega) (by omega) (by omega)).trans hq
  have q2 : ∀ F NU WS, jW P nv F NU WS w = kO 9 (kf (cr9 w) V) := fun _ _ _ => (jW_o (by omega) (by omega) (by omega)).trans hw
  have z1 : nI run - 1 = nI (run - 1) := pk_sub (b := 1) (by omega)
  have z5 : (4 : Int32) * nI k = nI (4 * k) := pk_mul 4 k
  have c1 : (nI k).toNatClampNeg = k := nI_clamp (by omega)
  have p16 : 16 ^ k ≤ 4096 := Nat.le_trans (Nat.pow_le_pow_right (n := 16) (by decide) (show k ≤ 3 by omega)) (by decide)
  refine kx_mk kx_tab kxLok_X4 (ini := false) [some (.ref 81), some (.int (nI i)), some (.ref c), none] ⟨by decide, rfl, by decide, by decide⟩ (rfl) rfl rfl (fun g hB hC => ?_)
  by_cases hl : lf = 0
  · refine hB bX4_join_0 _ _ _ _ _ _ _ kX4_join_0 ?_
    dsimp only [bX4_join_0, kx_wp, kx_step, kx_lI, kx_lL, kx_lA, kx_gl, kx_pI, kx_pL, kx_pR, kx_pA, kx_pV, kx_s1, kx_s2, kx_sl, kx_pre, kx_c2, kx_pl, kx_cmp, kx_oF, kx_eqN, kx_nil, kx_c1, kx_ft, kx_aI, kx_aL, kx_aR, kx_ln, Nat.reduceAdd, Option.toList, List.cons_append, List.nil_append, cf1_6, cf4_0, cf4_2, cf4_1, cf1_2, cf9_0, cf4_5, cf4_3]
    repeat (simp only [jW_81, jW_82, jW_83, jW_p81, jW_p82, jW_p83, q1, q2, h2, h6, h0, h3, h5, z1, z5, c1, nI_1, pk_us, pk_un, ne_eq, Nat.reduceEqDiff, not_false_eq_true, cp4_5, cp4_2, ks_eq, ks_ss]; try dsimp only [kx_wp, kx_step, kx_lI, kx_lL, kx_lA, kx_gl, kx_pI, kx_pL, kx_pR, kx_pA, kx_pV, kx_s1, kx_s2, kx_sl, kx_pre, kx_c2, kx_pl, kx_cmp, kx_oF, kx_eqN, kx_nil, kx_c1, kx_ft, kx_aI, kx_aL, kx_aR, kx_ln, Nat.reduceAdd, Option.toList, List.cons_append, List.nil_append, cf1_6, cf4_0, cf4_2, cf4_1, cf1_2, cf9_0, cf4_5, cf4_3])
    repeat' apply And.intro
    all_goals try (first | with_reducible assumption | (with_reducible refine ck_nzI ?_; simp; done) | (with_reducible refine ck_nzL ?_; simp; done) | (with_reducible refine vp_in_nI ?_ ?_ <;> first | omega | decide) | (with_reducible refine Nat.le_of_ble_eq_true ?_; rfl) | omega | exact vp_in_nI (by omega) (by decide) | exact Or.inl trivial | exact Or.inr trivial | exact Or.inl rfl | exact Or.inr rfl)
    · intro zc44
      first | exact absurd rfl zc44 | exact absurd zc44 (by decide) | exact absurd (by decide) zc44 | (exfalso; first | exact absurd ((nI_leI (a := 1) (b := lf) (by omega) (by omega)).mp zc44) (by omega) | exact zc44 ((nI_leI (a := 1) (b := lf) (by omega) (by omega)).mpr (by omega)) | exact zc60 rfl | exact cp_oi_n _ (by omega) zc60) | (exfalso; simp_all; done)
    · intro zc44
      with_reducible first | have ze44 := Int32.not_le.mp zc44 | have ze44 := zc44
      refine hB bX4_join_47 _ _ _ _ _ _ _ kX4_join_47 ?_
      dsimp only [bX4_join_47, kx_wp, kx_step, kx_lI, kx_lL, kx_lA, kx_gl, kx_pI, kx_pL, kx_pR, kx_pA, kx_pV, kx_s1, kx_s2, kx_sl, kx_pre, kx_c2, kx_pl, kx_cmp, kx_oF, kx_eqN, kx_nil, kx_c1, kx_ft, kx_aI, kx_aL, kx_aR, kx_ln, Nat.reduceAdd, Option.toList, List.cons_append, List.nil_append, cf1_6, cf4_0, cf4_2, cf4_1, cf1_2, cf9_0, cf4_5, cf4_3]
      repeat (simp only [jW_81, jW_82, jW_83, jW_p81, jW_p82, jW_p83, q1, q2, h2, h6, h0, h3, h5, z1, z5, c1, nI_1, pk_us, pk_un, ne_eq, Nat.reduceEqDiff, not_false_eq_true, cp4_5, cp4_2, ks_eq, ks_ss]; try dsimp only [kx_wp, kx_step, kx_lI, kx_lL, kx_lA, kx_gl, kx_pI, kx_pL, kx_pR, kx_pA, kx_pV, kx_s1, kx_s2, kx_sl, kx_pre, kx_c2, kx_pl, kx_cmp, kx_oF, kx_eqN, kx_nil, kx_c1, kx_ft, kx_aI, kx_aL, kx_aR, kx_ln, Nat.reduceAdd, Option.toList, List.cons_append, List.nil_append, cf1_6, cf4_0, cf4_2, cf4_1, cf1_2, cf9_0, cf4_5, cf4_3])
      repeat' apply And.intro
      all_goals try (first | with_reducible assumption | (with_reducible refine ck_nzI ?_; simp; done) | (with_reducible refine ck_nzL ?_; simp; done) | (with_reducible refine vp_in_nI ?_ ?_ <;> first | omega | decide) | (with_reducible refine Nat.le_of_ble_eq_true ?_; rfl) | omega | exact vp_in_nI (by omega) (by decide) | exact Or.inl trivial | exact Or.inr trivial | exact Or.inl rfl | exact Or.inr rfl)
      refine hB bX4_join_87 _ _ _ _ _ _ _ kX4_join_87 ?_
      dsimp only [bX4_join_87, kx_wp, kx_step, kx_lI, kx_lL, kx_lA, kx_gl, kx_pI, kx_pL, kx_pR, kx_pA, kx_pV, kx_s1, kx_s2, kx_sl, kx_pre, kx_c2, kx_pl, kx_cmp, kx_oF, kx_eqN, kx_nil, kx_c1, kx_ft, kx_aI, kx_aL, kx_aR, kx_ln, Nat.reduceAdd, Option.toList, List.cons_append, List.nil_append, cf1_6, cf4_0, cf4_2, cf4_1, cf1_2, cf9_0, cf4_5, cf4_3]
      repeat (simp only [jW_81, jW_82, jW_83, jW_p81, jW_p82, jW_p83, q1, q2, h2, h6, h0, h3, h5, z1, z5, c1, nI_1, pk_us, pk_un, ne_eq, Nat.reduceEqDiff, not_false_eq_true, cp4_5, cp4_2, ks_eq, ks_ss]; try dsimp only [kx_wp, kx_step, kx_lI, kx_lL, kx_lA, kx_gl, kx_pI, kx_pL, kx_pR, kx_pA, kx_pV, kx_s1, kx_s2, kx_sl, kx_pre, kx_c2, kx_pl, kx_cmp, kx_oF, kx_eqN, kx_nil, kx_c1, kx_ft, kx_aI, kx_aL, kx_aR, kx_ln, Nat.reduceAdd, Option.toList, List.cons_append, List.nil_append, cf1_6, cf4_0, cf4_2, cf4_1, cf1_2, cf9_0, cf4_5, cf4_3])
      all_goals (repeat' apply And.intro)
      all_goals ((try clear hB hC); first | exact True.intro | rfl | (unfold cp_js; rw [if_pos hl]; first | done | rfl) | (unfold cp_js; rw [if_neg hl]; dsimp only; rw [cp_up5 h5]; done) | (unfold cp_js; rw [if_neg hl]; first | done | rfl) | omega | trace_state)
  · have z2 : nI lf - 1 = nI (lf - 1) := pk_sub (b := 1) (by omega)
    have z3 : nI (lf - 1) / 1440 = nI ((lf - 1) / 1440) := pk_div (d := 1440) (by omega) (by omega) (by omega)
    rcases st with _ | v
    · refine hB bX4_join_0 _ _ _ _ _ _ _ kX4_join_0 ?_
      dsimp only [bX4_join_0, kx_wp, kx_step, kx_lI, kx_lL, kx_lA, kx_gl, kx_pI, kx_pL, kx_pR, kx_pA, kx_pV, kx_s1, kx_s2, kx_sl, kx_pre, kx_c2, kx_pl, kx_cmp, kx_oF, kx_eqN, kx_nil, kx_c1, kx_ft, kx_aI, kx_aL, kx_aR, kx_ln, Nat.reduceAdd, Option.toList, List.cons_append, List.nil_append, cf1_6, cf4_0, cf4_2, cf4_1, cf1_2, cf9_0, cf4_5, cf4_3]
      repeat (simp only [jW_81, jW_82, jW_83, jW_p81, jW_p82, jW_p83, q1, q2, h2, h6, h0, h3, h5, z1, z5, c1, nI_1, pk_us, pk_un, ne_eq, Nat.reduceEqDiff, not_false_eq_true, cp4_5, cp4_2, ks_eq, ks_ss, z2, z3]; try dsimp only [kx_wp, kx_step, kx_lI, kx_lL, kx_lA, kx_gl, kx_pI, kx_pL, kx_pR, kx_pA, kx_pV, kx_s1, kx_s2, kx_sl, kx_pre, kx_c2, kx_pl, kx_cmp, kx_oF, kx_eqN, kx_nil, kx_c1, kx_ft, kx_aI, kx_aL, kx_aR, kx_ln, Nat.reduceAdd, Option.toList, List.cons_append, List.nil_append, cf1_6, cf4_0, cf4_2, cf4_1, cf1_2, cf9_0, cf4_5, cf4_3])
      repeat' apply And.intro
      all_goals try (first | with_reducible assumption | (with_reducible refine ck_nzI ?_; simp; done) | (with_reducible refine ck_nzL ?_; simp; done) | (with_reducible refine vp_in_nI ?_ ?_ <;> first | omega | decide) | (with_reducible refine Nat.le_of_ble_eq_true ?_; rfl) | omega | exact vp_in_nI (by omega) (by decide) | exact Or.inl trivial | exact Or.inr trivial | exact Or.inl rfl | exact Or.inr rfl)
      · intro zc44
        with_reducible first | have ze44 := Int32.not_lt.mpr zc44 | have ze44 := zc44
        refine hB bX4_join_55 _ _ _ _ _ _ _ kX4_join_55 ?_
        dsimp only [bX4_join_55, kx_wp, kx_step, kx_lI, kx_lL, kx_lA, kx_gl, kx_pI, kx_pL, kx_pR, kx_pA, kx_pV, kx_s1, kx_s2, kx_sl, kx_pre, kx_c2, kx_pl, kx_cmp, kx_oF, kx_eqN, kx_nil, kx_c1, kx_ft, kx_aI, kx_aL, kx_aR, kx_ln, Nat.reduceAdd, Option.toList, List.cons_append, List.nil_append, cf1_6, cf4_0, cf4_2, cf4_1, cf1_2, cf9_0, cf4_5, cf4_3]
        repeat (simp only [jW_81, jW_82, jW_83, jW_p81, jW_p82, jW_p83, q1, q2, h2, h6, h0, h3, h5, z1, z5, c1, nI_1, pk_us, pk_un, ne_eq, Nat.reduceEqDiff, not_false_eq_true, cp4_5, cp4_2, ks_eq, ks_ss, z2, z3]; try dsimp only [kx_wp, kx_step, kx_lI, kx_lL, kx_lA, kx_gl, kx_pI, kx_pL, kx_pR, kx_pA, kx_pV, kx_s1, kx_s2, kx_sl, kx_pre, kx_c2, kx_pl, kx_cmp, kx_oF, kx_eqN, kx_nil, kx_c1, kx_ft, kx_aI, kx_aL, kx_aR, kx_ln, Nat.reduceAdd, Option.toList, List.cons_append, List.nil_append, cf1_6, cf4_0, cf4_2, cf4_1, cf1_2, cf9_0, cf4_5, cf4_3])
        repeat' apply And.intro
        all_goals try (first | with_reducible assumption | (with_reducible refine ck_nzI ?_; simp; done) | (with_reducible refine ck_nzL ?_; simp; done) | (with_reducible refine vp_in_nI ?_ ?_ <;> first | omega | decide) | (with_reducible refine Nat.le_of_ble_eq_true ?_; rfl) | omega | exact vp_in_nI (by omega) (by decide) | exact Or.inl trivial | exact Or.inr trivial | exact Or.inl rfl | exact Or.inr rfl)
        · intro zc60
          have ze60 := zc60
          refine hB bX4_join_87 _ _ _ _ _ _ _ kX4_join_87 ?_
          dsimp only [bX4_join_87, kx_wp, kx_step, kx_lI, kx_lL, kx_lA, kx_gl, kx_pI, kx_pL, kx_pR, kx_pA, kx_pV, kx_s1, kx_s2, kx_sl, kx_pre, kx_c2, kx_pl, kx_cmp, kx_oF, kx_eqN, kx_nil, kx_c1, kx_ft, kx_aI, kx_aL, kx_aR, kx_ln, Nat.reduceAdd, Option.toList, List.cons_append, List.nil_append, cf1_6, cf4_0, cf4_2, cf4_1, cf1_2, cf9_0, cf4_5, cf4_3]
          repeat (simp only [jW_81, jW_82, jW_83, jW_p81, jW_p82, jW_p83, q1, q2, h2, h6, h0, h3, h5, z1, z5, c1, nI_1, pk_us, pk_un, ne_eq, Nat.reduceEqDiff, not_false_eq_true, cp4_5, cp4_2, ks_eq, ks_ss, z2, z3]; try dsimp only [kx_wp, kx_step, kx_lI, kx_lL, kx_lA, kx_gl, kx_pI, kx_pL, kx_pR, kx_pA, kx_pV, kx_s1, kx_s2, kx_sl, kx_pre, kx_c2, kx_pl, kx_cmp, kx_oF, kx_eqN, kx_nil, kx_c1, kx_ft, kx_aI, kx_aL, kx_aR, kx_ln, Nat.reduceAdd, Option.toList, List.cons_append, List.nil_append, cf1_6, cf4_0, cf4_2, cf4_1, cf1_2, cf9_0, cf4_5, cf4_3])
          all_goals (repeat' apply And.intro)
          all_goals ((try clear hB hC); first | exact True.intro | rfl | (unfold cp_js; rw [if_pos hl]; first | done | rfl) | (unfold cp_js; rw [if_neg hl]; dsimp only; rw [cp_up5 h5]; done) | (unfold cp_js; rw [if_neg hl]; first | done | rfl) | omega | trace_state)
        · intro zc60
          first | exact absurd rfl zc60 | exact absurd zc60 (by decide) | exact absurd (by decide) zc60 | (exfalso; first | exact absurd ((nI_leI (a := 1) (b := lf) (by omega) (by omega)).mp zc44) (by omega) | exact zc44 ((nI_leI (a := 1) (b := lf) (by omega) (by omega)).mpr (by omega)) | exact zc60 rfl | exact cp_oi_n _ (by omega) zc60) | (exfalso; simp_all; done)
      · intro zc44
        first | exact absurd rfl zc44 | exact absurd zc44 (by decide) | exact absurd (by decide) zc44 | (exfalso; first | exact absurd ((nI_leI (a := 1) (b := lf) (by omega) (by omega)).mp zc44) (by omega) | exact zc44 ((nI_leI (a := 1) (b := lf) (by omega) (by omega)).mpr (by omega)) | exact zc60 rfl | exact cp_oi_n _ (by omega) zc60) | (exfalso; simp_all; done)
    · have hv := hst v rfl
      have z4 : cj_min (nI ((lf - 1) / 1440)) (nI days) = nI (min ((lf - 1) / 1440) days) := cj_min_n (by omega) (by omega)
      have z6 : cp_oi (some v) ||| nI (min ((lf - 1) / 1440) days) <<< (nI (4 * k) &&& 31) = cp_oi (some (v + min ((lf - 1) / 1440) days * 16 ^ k)) := cp_sh hv (by omega) hk
      refine hB bX4_join_0 _ _ _ _ _ _ _ kX4_join_0 ?_
      dsimp only [bX4_join_0, kx_wp, kx_step, kx_lI, kx_lL, kx_lA, kx_gl, kx_pI, kx_pL, kx_pR, kx_pA, kx_pV, kx_s1, kx_s2, kx_sl, kx_pre, kx_c2, kx_pl, kx_cmp, kx_oF, kx_eqN, kx_nil, kx_c1, kx_ft, kx_aI, kx_aL, kx_aR, kx_ln, Nat.reduceAdd, Option.toList, List.cons_append, List.nil_append, cf1_6, cf4_0, cf4_2, cf4_1, cf1_2, cf9_0, cf4_5, cf4_3]
      repeat (simp only [jW_81, jW_82, jW_83, jW_p81, jW_p82, jW_p83, q1, q2, h2, h6, h0, h3, h5, z1, z5, c1, nI_1, pk_us, pk_un, ne_eq, Nat.reduceEqDiff, not_false_eq_true, cp4_5, cp4_2, ks_eq, ks_ss, z2, z3, z4, z6]; try dsimp only [kx_wp, kx_step, kx_lI, kx_lL, kx_lA, kx_gl, kx_pI, kx_pL, kx_pR, kx_pA, kx_pV, kx_s1, kx_s2, kx_sl, kx_pre, kx_c2, kx_pl, kx_cmp, kx_oF, kx_eqN, kx_nil, kx_c1, kx_ft, kx_aI, kx_aL, kx_aR, kx_ln, Nat.reduceAdd, Option.toList, List.cons_append, List.nil_append, cf1_6, cf4_0, cf4_2, cf4_1, cf1_2, cf9_0, cf4_5, cf4_3])
      repeat' apply And.intro
      all_goals try (first | with_reducible assumption | (with_reducible refine ck_nzI ?_; simp; done) | (with_reducible refine ck_nzL ?_; simp; done) | (with_reducible refine vp_in_nI ?_ ?_ <;> first | omega | decide) | (with_reducible refine Nat.le_of_ble_eq_true ?_; rfl) | omega | exact vp_in_nI (by omega) (by decide) | exact Or.inl trivial | exact Or.inr trivial | exact Or.inl rfl | exact Or.inr rfl)
      · intro zc44
        with_reducible first | have ze44 := Int32.not_lt.mpr zc44 | have ze44 := zc44
        refine hB bX4_join_55 _ _ _ _ _ _ _ kX4_join_55 ?_
        dsimp only [bX4_join_55, kx_wp, kx_step, kx_lI, kx_lL, kx_lA, kx_gl, kx_pI, kx_pL, kx_pR, kx_pA, kx_pV, kx_s1, kx_s2, kx_sl, kx_pre, kx_c2, kx_pl, kx_cmp, kx_oF, kx_eqN, kx_nil, kx_c1, kx_ft, kx_aI, kx_aL, kx_aR, kx_ln, Nat.reduceAdd, Option.toList, List.cons_append, List.nil_append, cf1_6, cf4_0, cf4_2, cf4_1, cf1_2, cf9_0, cf4_5, cf4_3]
        repeat (simp only [jW_81, jW_82, jW_83, jW_p81, jW_p82, jW_p83, q1, q2, h2, h6, h0, h3, h5, z1, z5, c1, nI_1, pk_us, pk_un, ne_eq, Nat.reduceEqDiff, not_false_eq_true, cp4_5, cp4_2, ks_eq, ks_ss, z2, z3, z4, z6]; try dsimp only [kx_wp, kx_step, kx_lI, kx_lL, kx_lA, kx_gl, kx_pI, kx_pL, kx_pR, kx_pA, kx_pV, kx_s1, kx_s2, kx_sl, kx_pre, kx_c2, kx_pl, kx_cmp, kx_oF, kx_eqN, kx_nil, kx_c1, kx_ft, kx_aI, kx_aL, kx_aR, kx_ln, Nat.reduceAdd, Option.toList, List.cons_append, List.nil_append, cf1_6, cf4_0, cf4_2, cf4_1, cf1_2, cf9_0, cf4_5, cf4_3])
        repeat' apply And.intro
        all_goals try (first | with_reducible assumption | (with_reducible refine ck_nzI ?_; simp; done) | (with_reducible refine ck_nzL ?_; simp; done) | (with_reducible refine vp_in_nI ?_ ?_ <;> first | omega | decide) | (with_reducible refine Nat.le_of_ble_eq_true ?_; rfl) | omega | exact vp_in_nI (by omega) (by decide) | exact Or.inl trivial | exact Or.inr trivial | exact Or.inl rfl | exact Or.inr rfl)
        · intro zc60
          first | exact absurd rfl zc60 | exact absurd zc60 (by decide) | exact absurd (by decide) zc60 | (exfalso; first | exact absurd ((nI_leI (a := 1) (b := lf) (by omega) (by omega)).mp zc44) (by omega) | exact zc44 ((nI_leI (a := 1) (b := lf) (by omega) (by omega)).mpr (by omega)) | exact zc60 rfl | exact cp_oi_n _ (by omega) zc60) | (exfalso; simp_all; done)
        · intro zc60
          have ze60 := zc60
          refine hB bX4_join_63 _ _ _ _ _ _ _ kX4_join_63 ?_
          dsimp only [bX4_join_63, kx_wp, kx_step, kx_lI, kx_lL, kx_lA, kx_gl, kx_pI, kx_pL, kx_pR, kx_pA, kx_pV, kx_s1, kx_s2, kx_sl, kx_pre, kx_c2, kx_pl, kx_cmp, kx_oF, kx_eqN, kx_nil, kx_c1, kx_ft, kx_aI, kx_aL, kx_aR, kx_ln, Nat.reduceAdd, Option.toList, List.cons_append, List.nil_append, cf1_6, cf4_0, cf4_2, cf4_1, cf1_2, cf9_0, cf4_5, cf4_3]
          repeat (simp only [jW_81, jW_82, jW_83, jW_p81, jW_p82, jW_p83, q1, q2, h2, h6, h0, h3, h5, z1, z5, c1, nI_1, pk_us, pk_un, ne_eq, Nat.reduceEqDiff, not_false_eq_true, cp4_5, cp4_2, ks_eq, ks_ss, z2, z3, z4, z6]; try dsimp only [kx_wp, kx_step, kx_lI, kx_lL, kx_lA, kx_gl, kx_pI, kx_pL, kx_pR, kx_pA, kx_pV, kx_s1, kx_s2, kx_sl, kx_pre, kx_c2, kx_pl, kx_cmp, kx_oF, kx_eqN, kx_nil, kx_c1, kx_ft, kx_aI, kx_aL, kx_aR, kx_ln, Nat.reduceAdd, Option.toList, List.cons_append, List.nil_append, cf1_6, cf4_0, cf4_2, cf4_1, cf1_2, cf9_0, cf4_5, cf4_3])
          repeat' apply And.intro
          all_goals try (first | with_reducible assumption | (with_reducible refine ck_nzI ?_; simp; done) | (with_reducible refine ck_nzL ?_; simp; done) | (with_reducible refine vp_in_nI ?_ ?_ <;> first | omega | decide) | (with_reducible refine Nat.le_of_ble_eq_true ?_; rfl) | omega | exact vp_in_nI (by omega) (by decide) | exact Or.inl trivial | exact Or.inr trivial | exact Or.inl rfl | exact Or.inr rfl)
          refine hC.2.1 56 _ _ _ _ _ _ _ _ _ _ _ _ _ _ _ _ _ lX4_56 (ct_J9_min_7cf53 l G) rfl rfl (Nat.le_of_ble_eq_true rfl) (by first | decide | omega) (by decide) (by omega) (by omega) dX4_join_73 ?_
          refine hB bX4_join_76 _ _ _ _ _ _ _ kX4_join_76 ?_
          dsimp only [bX4_join_76, kx_wp, kx_step, kx_lI, kx_lL, kx_lA, kx_gl, kx_pI, kx_pL, kx_pR, kx_pA, kx_pV, kx_s1, kx_s2, kx_sl, kx_pre, kx_c2, kx_pl, kx_cmp, kx_oF, kx_eqN, kx_nil, kx_c1, kx_ft, kx_aI, kx_aL, kx_aR, kx_ln, Nat.reduceAdd, Option.toList, List.cons_append, List.nil_append, cf1_6, cf4_0, cf4_2, cf4_1, cf1_2, cf9_0, cf4_5, cf4_3]
          repeat (simp only [jW_81, jW_82, jW_83, jW_p81, jW_p82, jW_p83, q1, q2, h2, h6, h0, h3, h5, z1, z5, c1, nI_1, pk_us, pk_un, ne_eq, Nat.reduceEqDiff, not_false_eq_true, cp4_5, cp4_2, ks_eq, ks_ss, z2, z3, z4, z6]; try dsimp only [kx_wp, kx_step, kx_lI, kx_lL, kx_lA, kx_gl, kx_pI, kx_pL, kx_pR, kx_pA, kx_pV, kx_s1, kx_s2, kx_sl, kx_pre, kx_c2, kx_pl, kx_cmp, kx_oF, kx_eqN, kx_nil, kx_c1, kx_ft, kx_aI, kx_aL, kx_aR, kx_ln, Nat.reduceAdd, Option.toList, List.cons_append, List.nil_append, cf1_6, cf4_0, cf4_2, cf4_1, cf1_2, cf9_0, cf4_5, cf4_3])
          repeat' apply And.intro
          all_goals try (first | with_reducible assumption | (with_reducible refine ck_nzI ?_; simp; done) | (with_reducible refine ck_nzL ?_; simp; done) | (with_reducible refine vp_in_nI ?_ ?_ <;> first | omega | decide) | (with_reducible refine Nat.le_of_ble_eq_true ?_; rfl) | omega | exact vp_in_nI (by omega) (by decide) | exact Or.inl trivial | exact Or.inr trivial | exact Or.inl rfl | exact Or.inr rfl)
          refine hB bX4_join_87 _ _ _ _ _ _ _ kX4_join_87 ?_
          dsimp only [bX4_join_87, kx_wp, kx_step, kx_lI, kx_lL, kx_lA, kx_gl, kx_pI, kx_pL, kx_pR, kx_pA, kx_pV, kx_s1, kx_s2, kx_sl, kx_pre, kx_c2, kx_pl, kx_cmp, kx_oF, kx_eqN, kx_nil, kx_c1, kx_ft, kx_aI, kx_aL, kx_aR, kx_ln, Nat.reduceAdd, Option.toList, List.cons_append, List.nil_append, cf1_6, cf4_0, cf4_2, cf4_1, cf1_2, cf9_0, cf4_5, cf4_3]
          repeat (simp only [jW_81, jW_82, jW_83, jW_p81, jW_p82, jW_p83, q1, q2, h2, h6, h0, h3, h5, z1, z5, c1, nI_1, pk_us, pk_un, ne_eq, Nat.reduceEqDiff, not_false_eq_true, cp4_5, cp4_2, ks_eq, ks_ss, z2, z3, z4, z6]; try dsimp only [kx_wp, kx_step, kx_lI, kx_lL, kx_lA, kx_gl, kx_pI, kx_pL, kx_pR, kx_pA, kx_pV, kx_s1, kx_s2, kx_sl, kx_pre, kx_c2, kx_pl, kx_cmp, kx_oF, kx_eqN, kx_nil, kx_c1, kx_ft, kx_aI, kx_aL, kx_aR, kx_ln, Nat.reduceAdd, Option.toList, List.cons_append, List.nil_append, cf1_6, cf4_0, cf4_2, cf4_1, cf1_2, cf9_0, cf4_5, cf4_3])
          all_goals (repeat' apply And.intro)
          all_goals ((try clear hB hC); first | exact True.intro | rfl | (unfold cp_js; rw [if_pos hl]; first | done | rfl) | (unfold cp_js; rw [if_neg hl]; dsimp only; rw [cp_up5 h5]; done) | (unfold cp_js; rw [if_neg hl]; first | done | rfl) | omega | trace_state)
      · intro zc44
        first | exact absurd rfl zc44 | exact absurd zc44 (by decide) | exact absurd (by decide) zc44 | (exfalso; first | exact absurd ((nI_leI (a := 1) (b := lf) (by omega) (by omega)).mp zc44) (by omega) | exact zc44 ((nI_leI (a := 1) (b := lf) (by omega) (by omega)).mpr (by omega)) | exact zc60 rfl | exact cp_oi_n _ (by omega) zc60) | (exfalso; simp_all; done)


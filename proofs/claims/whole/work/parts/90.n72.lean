/-- quarters moved past: hours among them, what sounds -/
def ck_hh (a : Nat) : Nat → Int32
  | 0 => 0
  | n + 1 => ck_hh a n + (if lN ((a / 900000000 + 1 + n) * 900000000 % 3600000000) = 0 then 1 else 0)
def cx_hd (V T Q CN NN S C : Nat → Int32) (nn : Nat) (lt : Int32) (a : Nat) : Nat → (Nat → Int32) × (Nat → Int32)
  | 0 => (S, C)
  | n + 1 => if lt = 0 then cx_hd V T Q CN NN S C nn lt a n else cx_snd V T Q CN NN (cx_hd V T Q CN NN S C nn lt a n).1 (cx_hd V T Q CN NN S C nn lt a n).2 nn ((a / 900000000 + 1 + n) * 900000000 / 900000000 % 96)
def ck_hd (M : Nat → Int32) (A : Nat → Nat → Int32) (c : Nat) (lt : Int32) (a : Nat) : Nat → (Nat → Int32) × (Nat → Nat → Int32)
  | 0 => (M, A)
  | n + 1 => if lt = 0 then ck_hd M A c lt a n else (ck_sn (ck_hd M A c lt a n).1 (ck_hd M A c lt a n).2 c (lN ((a / 900000000 + 1 + n) * 900000000))).2
theorem ck_q_n {x : Nat} (h : x < 2 ^ 60) : ck_q (lN x) = nI (x / 900000000 % 4) := by
  unfold ck_q
  rw [show (900000000 : Int64) = lN 900000000 from rfl, pk_lDiv (by omega) (by omega) (by omega), show (4 : Int64) = lN 4 from rfl, pk_lRem (by omega) (by omega) (by omega), lN_i]
theorem ck_sn_wf {M : Nat → Int32} {A : Nat → Nat → Int32} {c k : Nat} {t : Int64} (h : ck_wf A k) : ck_wf (ck_sn M A c t).2.2 k := by
  obtain ⟨h1, ⟨p, wm, h2, h3, h4, h5⟩, h6⟩ := h
  have e : ∀ j, j ≠ 109 → j ≠ 110 → j ≠ 123 → (ck_sn M A c t).2.2 j = A j := fun j a b d => ck_sn_A a b d
  unfold ck_wf
  simp only [e 102 (by decide) (by decide) (by decide), e 103 (by decide) (by decide) (by decide), e 105 (by decide) (by decide) (by decide), e 106 (by decide) (by decide) (by decide), e 117 (by decide) (by decide) (by decide)]
  refine ⟨h1, ?_, h6⟩
  by_cases hk : k = c
  · subst hk
    rcases ck_sn_110 (M := M) (A := A) (c := k) (t := t) with q | ⟨q0, q⟩
    · exact ⟨p, wm, by rw [q]; exact h2, h3, h4, h5⟩
    · have hw := h5 q0
      exact ⟨(p + 1) % wm, wm, by rw [q, h2, h3, nI_clamp (by omega), nI_clamp (by omega)], h3, h4, fun _ => Nat.mod_lt _ (by omega)⟩
  · exact ⟨p, wm, by rw [ck_sn_j hk (by decide)]; exact h2, h3, h4, h5⟩
theorem ck_hd_wf {M : Nat → Int32} {A : Nat → Nat → Int32} {c k : Nat} {lt : Int32} {a : Nat} (h : ck_wf A k) : ∀ n, ck_wf (ck_hd M A c lt a n).2 k := by
  intro n
  induction n with
  | zero => exact h
  | succ n ih =>
    rw [ck_hd]
    split
    · exact ih
    · exact ck_sn_wf ih
theorem ck_hd_M {M : Nat → Int32} {A : Nat → Nat → Int32} {c : Nat} {lt : Int32} {a j : Nat} (h7 : j ≠ 47) (h8 : j ≠ 48) : ∀ n, (ck_hd M A c lt a n).1 j = M j := by
  intro n
  induction n with
  | zero => rfl
  | succ n ih =>
    rw [ck_hd]
    split
    · exact ih
    · rw [ck_sn_M h7 h8]; exact ih
theorem ck_hd_A {M : Nat → Int32} {A : Nat → Nat → Int32} {c : Nat} {lt : Int32} {a k : Nat} (h1 : k ≠ 109) (h2 : k ≠ 110) (h3 : k ≠ 123) : ∀ n, (ck_hd M A c lt a n).2 k = A k := by
  intro n
  induction n with
  | zero => rfl
  | succ n ih =>
    rw [ck_hd]
    split
    · exact ih
    · rw [ck_sn_A h1 h2 h3]; exact ih
def ck_wr2 (b : Int64) : Int64 := if b < 0 then b + 86400000000 else if b < 86400000000 then b else b - 86400000000
def bX1_moveHands_0 : List kx_O := [(.aload_n 0, 0, 0, 0, .null), (.getfield 15, 1, 3, 0, .null), (.iload_n 1, 1, 0, 0, .null), (.i2l, 0, 0, 0, .null), (.ldc2_w 105, 0, 0, 0, .long (1000000)), (.lmul, 0, 0, 0, .null), (.ladd, 0, 0, 0, .null), (.lstore_n 3, 3, 0, 0, .null), (.iconst 0, 0, 0, 0, .int 0), (.istore 5, 5, 0, 0, .null), (.aload_n 0, 0, 0, 0, .null), (.getfield 15, 1, 3, 0, .null), (.ldc2_w 142, 0, 0, 0, .long (900000000)), (.ldiv, 0, 0, 0, .null), (.lconst 1, 0, 0, 0, .long 1), (.ladd, 0, 0, 0, .null), (.ldc2_w 142, 0, 0, 0, .long (900000000)), (.lmul, 0, 0, 0, .null), (.lstore 6, 6, 0, 0, .null)]
theorem kX1_moveHands_0 : kx_oks kxL_X1 false cX1_moveHands 0 bX1_moveHands_0 = true := by decide +kernel
def bX1_moveHands_31 : List kx_O := [(.lload 6, 6, 0, 0, .null), (.lload_n 3, 3, 0, 0, .null), (.lcmp, 0, 0, 0, .null), (.ifCond .gt 45, 80, 0, 0, .null)]
theorem kX1_moveHands_31 : kx_oks kxL_X1 false cX1_moveHands 31 bX1_moveHands_31 = true := by decide +kernel
def bX1_moveHands_38 : List kx_O := [(.iload 5, 5, 0, 0, .null), (.lload 6, 6, 0, 0, .null), (.ldc2_w 209, 0, 0, 0, .long (3600000000)), (.lrem, 0, 0, 0, .null), (.lconst 0, 0, 0, 0, .long 0), (.lcmp, 0, 0, 0, .null), (.ifCond .ne 7, 55, 0, 0, .null)]
theorem kX1_moveHands_38 : kx_oks kxL_X1 false cX1_moveHands 38 bX1_moveHands_38 = true := by decide +kernel
def bX1_moveHands_51 : List kx_O := [(.iconst 1, 0, 0, 0, .int 1), (.goto 4, 56, 0, 0, .null)]
theorem kX1_moveHands_51 : kx_oks kxL_X1 false cX1_moveHands 51 bX1_moveHands_51 = true := by decide +kernel
def bX1_moveHands_55 : List kx_O := [(.iconst 0, 0, 0, 0, .int 0)]
theorem kX1_moveHands_55 : kx_oks kxL_X1 false cX1_moveHands 55 bX1_moveHands_55 = true := by decide +kernel
def bX1_moveHands_56 : List kx_O := [(.iadd, 0, 0, 0, .null), (.istore 5, 5, 0, 0, .null), (.iload_n 2, 2, 0, 0, .null), (.ifCond .eq 9, 69, 0, 0, .null)]
theorem kX1_moveHands_56 : kx_oks kxL_X1 false cX1_moveHands 56 bX1_moveHands_56 = true := by decide +kernel
def bX1_moveHands_63 : List kx_O := [(.aload_n 0, 0, 0, 0, .null), (.lload 6, 6, 0, 0, .null)]
theorem kX1_moveHands_63 : kx_oks kxL_X1 false cX1_moveHands 63 bX1_moveHands_63 = true := by decide +kernel
def bX1_moveHands_69 : List kx_O := [(.lload 6, 6, 0, 0, .null), (.ldc2_w 142, 0, 0, 0, .long (900000000)), (.ladd, 0, 0, 0, .null), (.lstore 6, 6, 0, 0, .null), (.goto (-46), 31, 0, 0, .null)]
theorem kX1_moveHands_69 : kx_oks kxL_X1 false cX1_moveHands 69 bX1_moveHands_69 = true := by decide +kernel
def bX1_moveHands_80 : List kx_O := [(.aload_n 0, 0, 0, 0, .null), (.lload_n 3, 3, 0, 0, .null), (.ldc2_w 109, 0, 0, 0, .long (86400000000))]
theorem kX1_moveHands_80 : kx_oks kxL_X1 false cX1_moveHands 80 bX1_moveHands_80 = true := by decide +kernel
def bX1_moveHands_88 : List kx_O := [(.putfield 15, 1, 3, 1, .null), (.iload 5, 5, 0, 0, .null), (.ireturn, 0, 0, 0, .null)]
theorem kX1_moveHands_88 : kx_oks kxL_X1 false cX1_moveHands 88 bX1_moveHands_88 = true := by decide +kernel
theorem dX1_moveHands_66 : decode cX1_moveHands 66 = .ok (.invokevirtual 155, 3) := by decide +kernel
theorem dX1_moveHands_85 : decode cX1_moveHands 85 = .ok (.invokestatic 111, 3) := by decide +kernel
set_option maxRecDepth 100000 in
set_option maxHeartbeats 4000000 in
theorem ct_X1_moveHands (l : Launch) (G : kx_G) {P : kx_P} {sz : Nat} {c w : Nat} {V T Q Fo St Al Wm S C : Nat → Int32} {d : Int64} {h : Value} (H : cx_R P c w V T Q Fo St Al Wm) {CN NN : Nat → Int32} {nn : Nat} (hf : V 12 = 0 → cx_fw Fo St CN NN nn) {a : Nat} (hd : d = lN a) (ha : a < 86400000000) {s lt : Int32} {to : Int64} (hto : lN a + s.toInt64 * 1000000 = to) {nh : Nat} (hnh : nh ≤ 60) (hin : ∀ k, k < nh → lN ((a / 900000000 + 1 + k) * 900000000) ≤ to) (hout : to < lN ((a / 900000000 + 1 + nh) * 900000000))  : kx_M l G sX1_moveHands 6 0 0 [.ref c, .int (s), .int (lt)] (cW P c w S d h C) sz (some (.int (ck_hh a nh))) (cW P c w (cx_hd V T Q CN NN S C nn lt a nh).1 (cj_fmL to 86400000000) h (cx_hd V T Q CN NN S C nn lt a nh).2) sz := by
  have c64 := H.c64
  subst hd
  have z4 : lN a / 900000000 = lN (a / 900000000) := pk_lDiv (b := 900000000) (by omega) (by omega) (by omega)
  have z5 := lN_1 (a / 900000000)
  have z6 : lN (a / 900000000 + 1) * 900000000 = lN ((a / 900000000 + 1 + 0) * 900000000) := lN_mul _ 900000000
  have z7 : ∀ k, lN ((a / 900000000 + 1 + k) * 900000000) + 900000000 = lN ((a / 900000000 + 1 + (k + 1)) * 900000000) := fun k => (lN_add ((a / 900000000 + 1 + k) * 900000000) 900000000).trans (congrArg (fun z => lN z) (by omega))
  have z8 : ∀ k, k < 60 → lN ((a / 900000000 + 1 + k) * 900000000) - lN ((a / 900000000 + 1 + k) * 900000000) / 3600000000 * 3600000000 = lN ((a / 900000000 + 1 + k) * 900000000 % 3600000000) := fun k hk => pk_lRem (b := 3600000000) (by omega) (by omega) (by omega)
  refine kx_mk kx_tab kxLok_X1 (ini := false) [some (.ref c), some (.int (s)), some (.int (lt)), none, none, none, none, none] ⟨by decide, rfl, by decide, by decide⟩ (⟨_, rfl⟩) rfl rfl (fun g hB hC => ?_)
  have loop31 : ∀ (n9 : Nat) (k : Nat), k + n9 = nh → g 31 [some (.ref c), some (.int (s)), some (.int (lt)), some (.long to), none, some (.int (ck_hh a k)), some (.long (lN ((a / 900000000 + 1 + k) * 900000000))), none] [] (cW P c w (cx_hd V T Q CN NN S C nn lt a k).1 (lN a) h (cx_hd V T Q CN NN S C nn lt a k).2) sz 0 0 := by
    intro n9
    induction n9 with
    | zero =>
      intro k hk
      obtain rfl : k = nh := by omega
      refine hB bX1_moveHands_31 _ _ _ _ _ _ _ kX1_moveHands_31 ?_
      dsimp only [bX1_moveHands_31, kx_wp, kx_step, kx_lI, kx_lL, kx_lA, kx_gl, kx_pI, kx_pL, kx_pR, kx_pA, kx_pV, kx_s1, kx_s2, kx_sl, kx_pre, kx_c2, kx_pl, kx_cmp, kx_oF, kx_eqN, kx_nil, kx_c1, kx_ft, kx_aI, kx_aL, kx_aR, kx_ln, Nat.reduceAdd, Option.toList, List.cons_append, List.nil_append, cf1_3]
      repeat (simp only [cW_c, cW_w H, cW_t H, cW_q H, cW_f H, cW_s H, cW_65 H, cW_66 H, cW_1 H, cW_k H, cW_pc, cW_pk H, pk_us, pk_un, ne_eq, Nat.reduceEqDiff, not_false_eq_true, hto, z4, z5, z6, z7, lg_cmp_ge, lg_cmp_le, lg_cmp_gt, lg_cmp_lt, lg_cmp_eq, cp1_3, ks_eq, ks_ss]; try dsimp only [kx_wp, kx_step, kx_lI, kx_lL, kx_lA, kx_gl, kx_pI, kx_pL, kx_pR, kx_pA, kx_pV, kx_s1, kx_s2, kx_sl, kx_pre, kx_c2, kx_pl, kx_cmp, kx_oF, kx_eqN, kx_nil, kx_c1, kx_ft, kx_aI, kx_aL, kx_aR, kx_ln, Nat.reduceAdd, Option.toList, List.cons_append, List.nil_append, cf1_3])
      repeat' apply And.intro
      all_goals try (first | with_reducible assumption | (with_reducible refine ck_nzI ?_; simp; done) | (with_reducible refine ck_nzL ?_; simp; done) | (with_reducible refine vp_in_nI ?_ ?_ <;> first | omega | decide) | (with_reducible refine Nat.le_of_ble_eq_true ?_; rfl) | omega | exact Or.inl trivial | exact Or.inr trivial | exact Or.inl rfl | exact Or.inr rfl)
      · intro zc35
        with_reducible first | have ze35 := Int64.not_le.mpr zc35 | have ze35 := zc35
        refine hB bX1_moveHands_80 _ _ _ _ _ _ _ kX1_moveHands_80 ?_
        dsimp only [bX1_moveHands_80, kx_wp, kx_step, kx_lI, kx_lL, kx_lA, kx_gl, kx_pI, kx_pL, kx_pR, kx_pA, kx_pV, kx_s1, kx_s2, kx_sl, kx_pre, kx_c2, kx_pl, kx_cmp, kx_oF, kx_eqN, kx_nil, kx_c1, kx_ft, kx_aI, kx_aL, kx_aR, kx_ln, Nat.reduceAdd, Option.toList, List.cons_append, List.nil_append, cf1_3]
        repeat (simp only [cW_c, cW_w H, cW_t H, cW_q H, cW_f H, cW_s H, cW_65 H, cW_66 H, cW_1 H, cW_k H, cW_pc, cW_pk H, pk_us, pk_un, ne_eq, Nat.reduceEqDiff, not_false_eq_true, hto, z4, z5, z6, z7, lg_cmp_ge, lg_cmp_le, lg_cmp_gt, lg_cmp_lt, lg_cmp_eq, cp1_3, ks_eq, ks_ss]; try dsimp only [kx_wp, kx_step, kx_lI, kx_lL, kx_lA, kx_gl, kx_pI, kx_pL, kx_pR, kx_pA, kx_pV, kx_s1, kx_s2, kx_sl, kx_pre, kx_c2, kx_pl, kx_cmp, kx_oF, kx_eqN, kx_nil, kx_c1, kx_ft, kx_aI, kx_aL, kx_aR, kx_ln, Nat.reduceAdd, Option.toList, List.cons_append, List.nil_append, cf1_3])
        repeat' apply And.intro
        all_goals try (first | with_reducible assumption | (with_reducible refine ck_nzI ?_; simp; done) | (with_reducible refine ck_nzL ?_; simp; done) | (with_reducible refine vp_in_nI ?_ ?_ <;> first | omega | decide) | (with_reducible refine Nat.le_of_ble_eq_true ?_; rfl) | omega | exact Or.inl trivial | exact Or.inr trivial | exact Or.inl rfl | exact Or.inr rfl)
        refine hC.2.1 111 _ _ _ _ _ _ _ _ _ _ _ _ _ _ _ _ _ lX1_111 (ct_J9_floorMod_f86c9 l G (by decide)) rfl rfl (Nat.le_of_ble_eq_true rfl) (by decide) (by decide) (by omega) (by omega) dX1_moveHands_85 ?_
        refine hB bX1_moveHands_88 _ _ _ _ _ _ _ kX1_moveHands_88 ?_
        dsimp only [bX1_moveHands_88, kx_wp, kx_step, kx_lI, kx_lL, kx_lA, kx_gl, kx_pI, kx_pL, kx_pR, kx_pA, kx_pV, kx_s1, kx_s2, kx_sl, kx_pre, kx_c2, kx_pl, kx_cmp, kx_oF, kx_eqN, kx_nil, kx_c1, kx_ft, kx_aI, kx_aL, kx_aR, kx_ln, Nat.reduceAdd, Option.toList, List.cons_append, List.nil_append, cf1_3]
        repeat (simp only [cW_c, cW_w H, cW_t H, cW_q H, cW_f H, cW_s H, cW_65 H, cW_66 H, cW_1 H, cW_k H, cW_pc, cW_pk H, pk_us, pk_un, ne_eq, Nat.reduceEqDiff, not_false_eq_true, hto, z4, z5, z6, z7, lg_cmp_ge, lg_cmp_le, lg_cmp_gt, lg_cmp_lt, lg_cmp_eq, cp1_3, ks_eq, ks_ss]; try dsimp only [kx_wp, kx_step, kx_lI, kx_lL, kx_lA, kx_gl, kx_pI, kx_pL, kx_pR, kx_pA, kx_pV, kx_s1, kx_s2, kx_sl, kx_pre, kx_c2, kx_pl, kx_cmp, kx_oF, kx_eqN, kx_nil, kx_c1, kx_ft, kx_aI, kx_aL, kx_aR, kx_ln, Nat.reduceAdd, Option.toList, List.cons_append, List.nil_append, cf1_3])
        all_goals (repeat' apply And.intro)
        all_goals ((try clear hB hC); first | exact True.intro | with_reducible assumption | rfl)
      · intro zc35
        first | exact absurd rfl zc35 | exact absurd zc35 (by decide) | exact absurd (by decide) zc35 | (exfalso; first | exact zc60 hlt | exact hlt zc60 | exact zc35 hout | exact absurd zc35 (Int64.not_lt.mpr (hin k (by omega)))) | (exfalso; simp_all; done)
    | succ n9 ih =>
      intro k hk
      have z9 := z8 k (by omega)
      by_cases hlt : lt = 0
      · refine hB bX1_moveHands_31 _ _ _ _ _ _ _ kX1_moveHands_31 ?_
        dsimp only [bX1_moveHands_31, kx_wp, kx_step, kx_lI, kx_lL, kx_lA, kx_gl, kx_pI, kx_pL, kx_pR, kx_pA, kx_pV, kx_s1, kx_s2, kx_sl, kx_pre, kx_c2, kx_pl, kx_cmp, kx_oF, kx_eqN, kx_nil, kx_c1, kx_ft, kx_aI, kx_aL, kx_aR, kx_ln, Nat.reduceAdd, Option.toList, List.cons_append, List.nil_append, cf1_3]
        repeat (simp only [cW_c, cW_w H, cW_t H, cW_q H, cW_f H, cW_s H, cW_65 H, cW_66 H, cW_1 H, cW_k H, cW_pc, cW_pk H, pk_us, pk_un, ne_eq, Nat.reduceEqDiff, not_false_eq_true, hto, z4, z5, z6, z7, lg_cmp_ge, lg_cmp_le, lg_cmp_gt, lg_cmp_lt, lg_cmp_eq, cp1_3, ks_eq, ks_ss, z9]; try dsimp only [kx_wp, kx_step, kx_lI, kx_lL, kx_lA, kx_gl, kx_pI, kx_pL, kx_pR, kx_pA, kx_pV, kx_s1, kx_s2, kx_sl, kx_pre, kx_c2, kx_pl, kx_cmp, kx_oF, kx_eqN, kx_nil, kx_c1, kx_ft, kx_aI, kx_aL, kx_aR, kx_ln, Nat.reduceAdd, Option.toList, List.cons_append, List.nil_append, cf1_3])
        repeat' apply And.intro
        all_goals try (first | with_reducible assumption | (with_reducible refine ck_nzI ?_; simp; done) | (with_reducible refine ck_nzL ?_; simp; done) | (with_reducible refine vp_in_nI ?_ ?_ <;> first | omega | decide) | (with_reducible refine Nat.le_of_ble_eq_true ?_; rfl) | omega | exact Or.inl trivial | exact Or.inr trivial | exact Or.inl rfl | exact Or.inr rfl)
        · intro zc35
          first | exact absurd rfl zc35 | exact absurd zc35 (by decide) | exact absurd (by decide) zc35 | (exfalso; first | exact zc60 hlt | exact hlt zc60 | exact zc35 hout | exact absurd zc35 (Int64.not_lt.mpr (hin k (by omega)))) | (exfalso; simp_all; done)
        · intro zc35
          with_reducible first | have ze35 := Int64.not_lt.mp zc35 | have ze35 := zc35
          refine hB bX1_moveHands_38 _ _ _ _ _ _ _ kX1_moveHands_38 ?_
          dsimp only [bX1_moveHands_38, kx_wp, kx_step, kx_lI, kx_lL, kx_lA, kx_gl, kx_pI, kx_pL, kx_pR, kx_pA, kx_pV, kx_s1, kx_s2, kx_sl, kx_pre, kx_c2, kx_pl, kx_cmp, kx_oF, kx_eqN, kx_nil, kx_c1, kx_ft, kx_aI, kx_aL, kx_aR, kx_ln, Nat.reduceAdd, Option.toList, List.cons_append, List.nil_append, cf1_3]
          repeat (simp only [cW_c, cW_w H, cW_t H, cW_q H, cW_f H, cW_s H, cW_65 H, cW_66 H, cW_1 H, cW_k H, cW_pc, cW_pk H, pk_us, pk_un, ne_eq, Nat.reduceEqDiff, not_false_eq_true, hto, z4, z5, z6, z7, lg_cmp_ge, lg_cmp_le, lg_cmp_gt, lg_cmp_lt, lg_cmp_eq, cp1_3, ks_eq, ks_ss, z9]; try dsimp only [kx_wp, kx_step, kx_lI, kx_lL, kx_lA, kx_gl, kx_pI, kx_pL, kx_pR, kx_pA, kx_pV, kx_s1, kx_s2, kx_sl, kx_pre, kx_c2, kx_pl, kx_cmp, kx_oF, kx_eqN, kx_nil, kx_c1, kx_ft, kx_aI, kx_aL, kx_aR, kx_ln, Nat.reduceAdd, Option.toList, List.cons_append, List.nil_append, cf1_3])
          repeat' apply And.intro
          all_goals try (first | with_reducible assumption | (with_reducible refine ck_nzI ?_; simp; done) | (with_reducible refine ck_nzL ?_; simp; done) | (with_reducible refine vp_in_nI ?_ ?_ <;> first | omega | decide) | (with_reducible refine Nat.le_of_ble_eq_true ?_; rfl) | omega | exact Or.inl trivial | exact Or.inr trivial | exact Or.inl rfl | exact Or.inr rfl)
          · intro zc48
            have ze48 := zc48
            refine hB bX1_moveHands_55 _ _ _ _ _ _ _ kX1_moveHands_55 ?_
            dsimp only [bX1_moveHands_55, kx_wp, kx_step, kx_lI, kx_lL, kx_lA, kx_gl, kx_pI, kx_pL, kx_pR, kx_pA, kx_pV, kx_s1, kx_s2, kx_sl, kx_pre, kx_c2, kx_pl, kx_cmp, kx_oF, kx_eqN, kx_nil, kx_c1, kx_ft, kx_aI, kx_aL, kx_aR, kx_ln, Nat.reduceAdd, Option.toList, List.cons_append, List.nil_append, cf1_3]
            repeat (simp only [cW_c, cW_w H, cW_t H, cW_q H, cW_f H, cW_s H, cW_65 H, cW_66 H, cW_1 H, cW_k H, cW_pc, cW_pk H, pk_us, pk_un, ne_eq, Nat.reduceEqDiff, not_false_eq_true, hto, z4, z5, z6, z7, lg_cmp_ge, lg_cmp_le, lg_cmp_gt, lg_cmp_lt, lg_cmp_eq, cp1_3, ks_eq, ks_ss, z9]; try dsimp only [kx_wp, kx_step, kx_lI, kx_lL, kx_lA, kx_gl, kx_pI, kx_pL, kx_pR, kx_pA, kx_pV, kx_s1, kx_s2, kx_sl, kx_pre, kx_c2, kx_pl, kx_cmp, kx_oF, kx_eqN, kx_nil, kx_c1, kx_ft, kx_aI, kx_aL, kx_aR, kx_ln, Nat.reduceAdd, Option.toList, List.cons_append, List.nil_append, cf1_3])
            repeat' apply And.intro
            all_goals try (first | with_reducible assumption | (with_reducible refine ck_nzI ?_; simp; done) | (with_reducible refine ck_nzL ?_; simp; done) | (with_reducible refine vp_in_nI ?_ ?_ <;> first | omega | decide) | (with_reducible refine Nat.le_of_ble_eq_true ?_; rfl) | omega | exact Or.inl trivial | exact Or.inr trivial | exact Or.inl rfl | exact Or.inr rfl)
            refine hB bX1_moveHands_56 _ _ _ _ _ _ _ kX1_moveHands_56 ?_
            dsimp only [bX1_moveHands_56, kx_wp, kx_step, kx_lI, kx_lL, kx_lA, kx_gl, kx_pI, kx_pL, kx_pR, kx_pA, kx_pV, kx_s1, kx_s2, kx_sl, kx_pre, kx_c2, kx_pl, kx_cmp, kx_oF, kx_eqN, kx_nil, kx_c1, kx_ft, kx_aI, kx_aL, kx_aR, kx_ln, Nat.reduceAdd, Option.toList, List.cons_append, List.nil_append, cf1_3]
            repeat (simp only [cW_c, cW_w H, cW_t H, cW_q H, cW_f H, cW_s H, cW_65 H, cW_66 H, cW_1 H, cW_k H, cW_pc, cW_pk H, pk_us, pk_un, ne_eq, Nat.reduceEqDiff, not_false_eq_true, hto, z4, z5, z6, z7, lg_cmp_ge, lg_cmp_le, lg_cmp_gt, lg_cmp_lt, lg_cmp_eq, cp1_3, ks_eq, ks_ss, z9]; try dsimp only [kx_wp, kx_step, kx_lI, kx_lL, kx_lA, kx_gl, kx_pI, kx_pL, kx_pR, kx_pA, kx_pV, kx_s1, kx_s2, kx_sl, kx_pre, kx_c2, kx_pl, kx_cmp, kx_oF, kx_eqN, kx_nil, kx_c1, kx_ft, kx_aI, kx_aL, kx_aR, kx_ln, Nat.reduceAdd, Option.toList, List.cons_append, List.nil_append, cf1_3])
            repeat' apply And.intro
            all_goals try (first | with_reducible assumption | (with_reducible refine ck_nzI ?_; simp; done) | (with_reducible refine ck_nzL ?_; simp; done) | (with_reducible refine vp_in_nI ?_ ?_ <;> first | omega | decide) | (with_reducible refine Nat.le_of_ble_eq_true ?_; rfl) | omega | exact Or.inl trivial | exact Or.inr trivial | exact Or.inl rfl | exact Or.inr rfl)
            · intro zc60
              have ze60 := zc60
              refine hB bX1_moveHands_69 _ _ _ _ _ _ _ kX1_moveHands_69 ?_
              dsimp only [bX1_moveHands_69, kx_wp, kx_step, kx_lI, kx_lL, kx_lA, kx_gl, kx_pI, kx_pL, kx_pR, kx_pA, kx_pV, kx_s1, kx_s2, kx_sl, kx_pre, kx_c2, kx_pl, kx_cmp, kx_oF, kx_eqN, kx_nil, kx_c1, kx_ft, kx_aI, kx_aL, kx_aR, kx_ln, Nat.reduceAdd, Option.toList, List.cons_append, List.nil_append, cf1_3]
              repeat (simp only [cW_c, cW_w H, cW_t H, cW_q H, cW_f H, cW_s H, cW_65 H, cW_66 H, cW_1 H, cW_k H, cW_pc, cW_pk H, pk_us, pk_un, ne_eq, Nat.reduceEqDiff, not_false_eq_true, hto, z4, z5, z6, z7, lg_cmp_ge, lg_cmp_le, lg_cmp_gt, lg_cmp_lt, lg_cmp_eq, cp1_3, ks_eq, ks_ss, z9]; try dsimp only [kx_wp, kx_step, kx_lI, kx_lL, kx_lA, kx_gl, kx_pI, kx_pL, kx_pR, kx_pA, kx_pV, kx_s1, kx_s2, kx_sl, kx_pre, kx_c2, kx_pl, kx_cmp, kx_oF, kx_eqN, kx_nil, kx_c1, kx_ft, kx_aI, kx_aL, kx_aR, kx_ln, Nat.reduceAdd, Option.toList, List.cons_append, List.nil_append, cf1_3])
              repeat' apply And.intro
              all_goals try (first | with_reducible assumption | (with_reducible refine ck_nzI ?_; simp; done) | (with_reducible refine ck_nzL ?_; simp; done) | (with_reducible refine vp_in_nI ?_ ?_ <;> first | omega | decide) | (with_reducible refine Nat.le_of_ble_eq_true ?_; rfl) | omega | exact Or.inl trivial | exact Or.inr trivial | exact Or.inl rfl | exact Or.inr rfl)
              have zi := ih (k + 1) (by omega)
              rw [ck_hh, cx_hd, if_pos hlt] at zi
              simp only [zc35, ze35, ze48, eq_true ze60, ↓reduceIte] at zi
              exact zi
            · intro zc60
              first | exact absurd rfl zc60 | exact absurd zc60 (by decide) | exact absurd (by decide) zc60 | (exfalso; first | exact zc60 hlt | exact hlt zc60 | exact zc35 hout | exact absurd zc35 (Int64.not_lt.mpr (hin k (by omega)))) | (exfalso; simp_all; done)
          · intro zc48
            with_reducible first | have ze48 := Decidable.not_not.mp zc48 | have ze48 := zc48
            refine hB bX1_moveHands_51 _ _ _ _ _ _ _ kX1_moveHands_51 ?_
            dsimp only [bX1_moveHands_51, kx_wp, kx_step, kx_lI, kx_lL, kx_lA, kx_gl, kx_pI, kx_pL, kx_pR, kx_pA, kx_pV, kx_s1, kx_s2, kx_sl, kx_pre, kx_c2, kx_pl, kx_cmp, kx_oF, kx_eqN, kx_nil, kx_c1, kx_ft, kx_aI, kx_aL, kx_aR, kx_ln, Nat.reduceAdd, Option.toList, List.cons_append, List.nil_append, cf1_3]
            repeat (simp only [cW_c, cW_w H, cW_t H, cW_q H, cW_f H, cW_s H, cW_65 H, cW_66 H, cW_1 H, cW_k H, cW_pc, cW_pk H, pk_us, pk_un, ne_eq, Nat.reduceEqDiff, not_false_eq_true, hto, z4, z5, z6, z7, lg_cmp_ge, lg_cmp_le, lg_cmp_gt, lg_cmp_lt, lg_cmp_eq, cp1_3, ks_eq, ks_ss, z9]; try dsimp only [kx_wp, kx_step, kx_lI, kx_lL, kx_lA, kx_gl, kx_pI, kx_pL, kx_pR, kx_pA, kx_pV, kx_s1, kx_s2, kx_sl, kx_pre, kx_c2, kx_pl, kx_cmp, kx_oF, kx_eqN, kx_nil, kx_c1, kx_ft, kx_aI, kx_aL, kx_aR, kx_ln, Nat.reduceAdd, Option.toList, List.cons_append, List.nil_append, cf1_3])
            repeat' apply And.intro
            all_goals try (first | with_reducible assumption | (with_reducible refine ck_nzI ?_; simp; done) | (with_reducible refine ck_nzL ?_; simp; done) | (with_reducible refine vp_in_nI ?_ ?_ <;> first | omega | decide) | (with_reducible refine Nat.le_of_ble_eq_true ?_; rfl) | omega | exact Or.inl trivial | exact Or.inr trivial | exact Or.inl rfl | exact Or.inr rfl)
            refine hB bX1_moveHands_56 _ _ _ _ _ _ _ kX1_moveHands_56 ?_
            dsimp only [bX1_moveHands_56, kx_wp, kx_step, kx_lI, kx_lL, kx_lA, kx_gl, kx_pI, kx_pL, kx_pR, kx_pA, kx_pV, kx_s1, kx_s2, kx_sl, kx_pre, kx_c2, kx_pl, kx_cmp, kx_oF, kx_eqN, kx_nil, kx_c1, kx_ft, kx_aI, kx_aL, kx_aR, kx_ln, Nat.reduceAdd, Option.toList, List.cons_append, List.nil_append, cf1_3]
            repeat (simp only [cW_c, cW_w H, cW_t H, cW_q H, cW_f H, cW_s H, cW_65 H, cW_66 H, cW_1 H, cW_k H, cW_pc, cW_pk H, pk_us, pk_un, ne_eq, Nat.reduceEqDiff, not_false_eq_true, hto, z4, z5, z6, z7, lg_cmp_ge, lg_cmp_le, lg_cmp_gt, lg_cmp_lt, lg_cmp_eq, cp1_3, ks_eq, ks_ss, z9]; try dsimp only [kx_wp, kx_step, kx_lI, kx_lL, kx_lA, kx_gl, kx_pI, kx_pL, kx_pR, kx_pA, kx_pV, kx_s1, kx_s2, kx_sl, kx_pre, kx_c2, kx_pl, kx_cmp, kx_oF, kx_eqN, kx_nil, kx_c1, kx_ft, kx_aI, kx_aL, kx_aR, kx_ln, Nat.reduceAdd, Option.toList, List.cons_append, List.nil_append, cf1_3])
            repeat' apply And.intro
            all_goals try (first | with_reducible assumption | (with_reducible refine ck_nzI ?_; simp; done) | (with_reducible refine ck_nzL ?_; simp; done) | (with_reducible refine vp_in_nI ?_ ?_ <;> first | omega | decide) | (with_reducible refine Nat.le_of_ble_eq_true ?_; rfl) | omega | exact Or.inl trivial | exact Or.inr trivial | exact Or.inl rfl | exact Or.inr rfl)
            · intro zc60
              have ze60 := zc60
              refine hB bX1_moveHands_69 _ _ _ _ _ _ _ kX1_moveHands_69 ?_
              dsimp only [bX1_moveHands_69, kx_wp, kx_step, kx_lI, kx_lL, kx_lA, kx_gl, kx_pI, kx_pL, kx_pR, kx_pA, kx_pV, kx_s1, kx_s2, kx_sl, kx_pre, kx_c2, kx_pl, kx_cmp, kx_oF, kx_eqN, kx_nil, kx_c1, kx_ft, kx_aI, kx_aL, kx_aR, kx_ln, Nat.reduceAdd, Option.toList, List.cons_append, List.nil_append, cf1_3]
              repeat (simp only [cW_c, cW_w H, cW_t H, cW_q H, cW_f H, cW_s H, cW_65 H, cW_66 H, cW_1 H, cW_k H, cW_pc, cW_pk H, pk_us, pk_un, ne_eq, Nat.reduceEqDiff, not_false_eq_true, hto, z4, z5, z6, z7, lg_cmp_ge, lg_cmp_le, lg_cmp_gt, lg_cmp_lt, lg_cmp_eq, cp1_3, ks_eq, ks_ss, z9]; try dsimp only [kx_wp, kx_step, kx_lI, kx_lL, kx_lA, kx_gl, kx_pI, kx_pL, kx_pR, kx_pA, kx_pV, kx_s1, kx_s2, kx_sl, kx_pre, kx_c2, kx_pl, kx_cmp, kx_oF, kx_eqN, kx_nil, kx_c1, kx_ft, kx_aI, kx_aL, kx_aR, kx_ln, Nat.reduceAdd, Option.toList, List.cons_append, List.nil_append, cf1_3])
              repeat' apply And.intro
              all_goals try (first | with_reducible assumption | (with_reducible refine ck_nzI ?_; simp; done) | (with_reducible refine ck_nzL ?_; simp; done) | (with_reducible refine vp_in_nI ?_ ?_ <;> first | omega | decide) | (with_reducible refine Nat.le_of_ble_eq_true ?_; rfl) | omega | exact Or.inl trivial | exact Or.inr trivial | exact Or.inl rfl | exact Or.inr rfl)
              have zi := ih (k + 1) (by omega)
              rw [ck_hh, cx_hd, if_pos hlt] at zi
              simp only [zc35, ze35, eq_true ze48, eq_true ze60, ↓reduceIte] at zi
              exact zi
            · intro zc60
              first | exact absurd rfl zc60 | exact absurd zc60 (by decide) | exact absurd (by decide) zc60 | (exfalso; first | exact zc60 hlt | exact hlt zc60 | exact zc35 hout | exact absurd zc35 (Int64.not_lt.mpr (hin k (by omega)))) | (exfalso; simp_all; done)
      · refine hB bX1_moveHands_31 _ _ _ _ _ _ _ kX1_moveHands_31 ?_
        dsimp only [bX1_moveHands_31, kx_wp, kx_step, kx_lI, kx_lL, kx_lA, kx_gl, kx_pI, kx_pL, kx_pR, kx_pA, kx_pV, kx_s1, kx_s2, kx_sl, kx_pre, kx_c2, kx_pl, kx_cmp, kx_oF, kx_eqN, kx_nil, kx_c1, kx_ft, kx_aI, kx_aL, kx_aR, kx_ln, Nat.reduceAdd, Option.toList, List.cons_append, List.nil_append, cf1_3]
        repeat (simp only [cW_c, cW_w H, cW_t H, cW_q H, cW_f H, cW_s H, cW_65 H, cW_66 H, cW_1 H, cW_k H, cW_pc, cW_pk H, pk_us, pk_un, ne_eq, Nat.reduceEqDiff, not_false_eq_true, hto, z4, z5, z6, z7, lg_cmp_ge, lg_cmp_le, lg_cmp_gt, lg_cmp_lt, lg_cmp_eq, cp1_3, ks_eq, ks_ss, z9]; try dsimp only [kx_wp, kx_step, kx_lI, kx_lL, kx_lA, kx_gl, kx_pI, kx_pL, kx_pR, kx_pA, kx_pV, kx_s1, kx_s2, kx_sl, kx_pre, kx_c2, kx_pl, kx_cmp, kx_oF, kx_eqN, kx_nil, kx_c1, kx_ft, kx_aI, kx_aL, kx_aR, kx_ln, Nat.reduceAdd, Option.toList, List.cons_append, List.nil_append, cf1_3])
        repeat' apply And.intro
        all_goals try (first | with_reducible assumption | (with_reducible refine ck_nzI ?_; simp; done) | (with_reducible refine ck_nzL ?_; simp; done) | (with_reducible refine vp_in_nI ?_ ?_ <;> first | omega | decide) | (with_reducible refine Nat.le_of_ble_eq_true ?_; rfl) | omega | exact Or.inl trivial | exact Or.inr trivial | exact Or.inl rfl | exact Or.inr rfl)
        · intro zc35
          first | exact absurd rfl zc35 | exact absurd zc35 (by decide) | exact absurd (by decide) zc35 | (exfalso; first | exact zc60 hlt | exact hlt zc60 | exact zc35 hout | exact absurd zc35 (Int64.not_lt.mpr (hin k (by omega)))) | (exfalso; simp_all; done)
        · intro zc35
          with_reducible first | have ze35 := Int64.not_lt.mp zc35 | have ze35 := zc35
          refine hB bX1_moveHands_38 _ _ _ _ _ _ _ kX1_moveHands_38 ?_
          dsimp only [bX1_moveHands_38, kx_wp, kx_step, kx_lI, kx_lL, kx_lA, kx_gl, kx_pI, kx_pL, kx_pR, kx_pA, kx_pV, kx_s1, kx_s2, kx_sl, kx_pre, kx_c2, kx_pl, kx_cmp, kx_oF, kx_eqN, kx_nil, kx_c1, kx_ft, kx_aI, kx_aL, kx_aR, kx_ln, Nat.reduceAdd, Option.toList, List.cons_append, List.nil_append, cf1_3]
          repeat (simp only [cW_c, cW_w H, cW_t H, cW_q H, cW_f H, cW_s H, cW_65 H, cW_66 H, cW_1 H, cW_k H, cW_pc, cW_pk H, pk_us, pk_un, ne_eq, Nat.reduceEqDiff, not_false_eq_true, hto, z4, z5, z6, z7, lg_cmp_ge, lg_cmp_le, lg_cmp_gt, lg_cmp_lt, lg_cmp_eq, cp1_3, ks_eq, ks_ss, z9]; try dsimp only [kx_wp, kx_step, kx_lI, kx_lL, kx_lA, kx_gl, kx_pI, kx_pL, kx_pR, kx_pA, kx_pV, kx_s1, kx_s2, kx_sl, kx_pre, kx_c2, kx_pl, kx_cmp, kx_oF, kx_eqN, kx_nil, kx_c1, kx_ft, kx_aI, kx_aL, kx_aR, kx_ln, Nat.reduceAdd, Option.toList, List.cons_append, List.nil_append, cf1_3])
          repeat' apply And.intro
          all_goals try (first | with_reducible assumption | (with_reducible refine ck_nzI ?_; simp; done) | (with_reducible refine ck_nzL ?_; simp; done) | (with_reducible refine vp_in_nI ?_ ?_ <;> first | omega | decide) | (with_reducible refine Nat.le_of_ble_eq_true ?_; rfl) | omega | exact Or.inl trivial | exact Or.inr trivial | exact Or.inl rfl | exact Or.inr rfl)
          · intro zc48
            have ze48 := zc48
            refine hB bX1_moveHands_55 _ _ _ _ _ _ _ kX1_moveHands_55 ?_
            dsimp only [bX1_moveHands_55, kx_wp, kx_step, kx_lI, kx_lL, kx_lA, kx_gl, kx_pI, kx_pL, kx_pR, kx_pA, kx_pV, kx_s1, kx_s2, kx_sl, kx_pre, kx_c2, kx_pl, kx_cmp, kx_oF, kx_eqN, kx_nil, kx_c1, kx_ft, kx_aI, kx_aL, kx_aR, kx_ln, Nat.reduceAdd, Option.toList, List.cons_append, List.nil_append, cf1_3]
            repeat (simp only [cW_c, cW_w H, cW_t H, cW_q H, cW_f H, cW_s H, cW_65 H, cW_66 H, cW_1 H, cW_k H, cW_pc, cW_pk H, pk_us, pk_un, ne_eq, Nat.reduceEqDiff, not_false_eq_true, hto, z4, z5, z6, z7, lg_cmp_ge, lg_cmp_le, lg_cmp_gt, lg_cmp_lt, lg_cmp_eq, cp1_3, ks_eq, ks_ss, z9]; try dsimp only [kx_wp, kx_step, kx_lI, kx_lL, kx_lA, kx_gl, kx_pI, kx_pL, kx_pR, kx_pA, kx_pV, kx_s1, kx_s2, kx_sl, kx_pre, kx_c2, kx_pl, kx_cmp, kx_oF, kx_eqN, kx_nil, kx_c1, kx_ft, kx_aI, kx_aL, kx_aR, kx_ln, Nat.reduceAdd, Option.toList, List.cons_append, List.nil_append, cf1_3])
            repeat' apply And.intro
            all_goals try (first | with_reducible assumption | (with_reducible refine ck_nzI ?_; simp; done) | (with_reducible refine ck_nzL ?_; simp; done) | (with_reducible refine vp_in_nI ?_ ?_ <;> first | omega | decide) | (with_reducible refine Nat.le_of_ble_eq_true ?_; rfl) | omega | exact Or.inl trivial | exact Or.inr trivial | exact Or.inl rfl | exact Or.inr rfl)
            refine hB bX1_moveHands_56 _ _ _ _ _ _ _ kX1_moveHands_56 ?_
            dsimp only [bX1_moveHands_56, kx_wp, kx_step, kx_lI, kx_lL, kx_lA, kx_gl, kx_pI, kx_pL, kx_pR, kx_pA, kx_pV, kx_s1, kx_s2, kx_sl, kx_pre, kx_c2, kx_pl, kx_cmp, kx_oF, kx_eqN, kx_nil, kx_c1, kx_ft, kx_aI, kx_aL, kx_aR, kx_ln, Nat.reduceAdd, Option.toList, List.cons_append, List.nil_append, cf1_3]
            repeat (simp only [cW_c, cW_w H, cW_t H, cW_q H, cW_f H, cW_s H, cW_65 H, cW_66 H, cW_1 H, cW_k H, cW_pc, cW_pk H, pk_us, pk_un, ne_eq, Nat.reduceEqDiff, not_false_eq_true, hto, z4, z5, z6, z7, lg_cmp_ge, lg_cmp_le, lg_cmp_gt, lg_cmp_lt, lg_cmp_eq, cp1_3, ks_eq, ks_ss, z9]; try dsimp only [kx_wp, kx_step, kx_lI, kx_lL, kx_lA, kx_gl, kx_pI, kx_pL, kx_pR, kx_pA, kx_pV, kx_s1, kx_s2, kx_sl, kx_pre, kx_c2, kx_pl, kx_cmp, kx_oF, kx_eqN, kx_nil, kx_c1, kx_ft, kx_aI, kx_aL, kx_aR, kx_ln, Nat.reduceAdd, Option.toList, List.cons_append, List.nil_append, cf1_3])
            repeat' apply And.intro
            all_goals try (first | with_reducible assumption | (with_reducible refine ck_nzI ?_; simp; done) | (with_reducible refine ck_nzL ?_; simp; done) | (with_reducible refine vp_in_nI ?_ ?_ <;> first | omega | decide) | (with_reducible refine Nat.le_of_ble_eq_true ?_; rfl) | omega | exact Or.inl trivial | exact Or.inr trivial | exact Or.inl rfl | exact Or.inr rfl)
            · intro zc60
              first | exact absurd rfl zc60 | exact absurd zc60 (by decide) | exact absurd (by decide) zc60 | (exfalso; first | exact zc60 hlt | exact hlt zc60 | exact zc35 hout | exact absurd zc35 (Int64.not_lt.mpr (hin k (by omega)))) | (exfalso; simp_all; done)
            · intro zc60
              have ze60 := zc60
              refine hB bX1_moveHands_63 _ _ _ _ _ _ _ kX1_moveHands_63 ?_
              dsimp only [bX1_moveHands_63, kx_wp, kx_step, kx_lI, kx_lL, kx_lA, kx_gl, kx_pI, kx_pL, kx_pR, kx_pA, kx_pV, kx_s1, kx_s2, kx_sl, kx_pre, kx_c2, kx_pl, kx_cmp, kx_oF, kx_eqN, kx_nil, kx_c1, kx_ft, kx_aI, kx_aL, kx_aR, kx_ln, Nat.reduceAdd, Option.toList, List.cons_append, List.nil_append, cf1_3]
              repeat (simp only [cW_c, cW_w H, cW_t H, cW_q H, cW_f H, cW_s H, cW_65 H, cW_66 H, cW_1 H, cW_k H, cW_pc, cW_pk H, pk_us, pk_un, ne_eq, Nat.reduceEqDiff, not_false_eq_true, hto, z4, z5, z6, z7, lg_cmp_ge, lg_cmp_le, lg_cmp_gt, lg_cmp_lt, lg_cmp_eq, cp1_3, ks_eq, ks_ss, z9]; try dsimp only [kx_wp, kx_step, kx_lI, kx_lL, kx_lA, kx_gl, kx_pI, kx_pL, kx_pR, kx_pA, kx_pV, kx_s1, kx_s2, kx_sl, kx_pre, kx_c2, kx_pl, kx_cmp, kx_oF, kx_eqN, kx_nil, kx_c1, kx_ft, kx_aI, kx_aL, kx_aR, kx_ln, Nat.reduceAdd, Option.toList, List.cons_append, List.nil_append, cf1_3])
              repeat' apply And.intro
              all_goals try (first | with_reducible assumption | (with_reducible refine ck_nzI ?_; simp; done) | (with_reducible refine ck_nzL ?_; simp; done) | (with_reducible refine vp_in_nI ?_ ?_ <;> first | omega | decide) | (with_reducible refine Nat.le_of_ble_eq_true ?_; rfl) | omega | exact Or.inl trivial | exact Or.inr trivial | exact Or.inl rfl | exact Or.inr rfl)
              refine hC.1 155 _ _ _ _ _ _ _ 1 _ _ _ _ _ _ _ _ _ _ _ _ lX1_155 (ct_X1_sound l G H hf (t := lN ((a / 900000000 + 1 + k) * 900000000)) rfl (by omega) rfl) ⟨by decide, rfl⟩ (by first | exact cW_c | exact cW_w H | exact cW_f H | exact cW_65 H) rfl rfl (Nat.le_of_ble_eq_true rfl) (by decide) (by decide) (by omega) (by omega) dX1_moveHands_66 ?_
              refine hB bX1_moveHands_69 _ _ _ _ _ _ _ kX1_moveHands_69 ?_
              dsimp only [bX1_moveHands_69, kx_wp, kx_step, kx_lI, kx_lL, kx_lA, kx_gl, kx_pI, kx_pL, kx_pR, kx_pA, kx_pV, kx_s1, kx_s2, kx_sl, kx_pre, kx_c2, kx_pl, kx_cmp, kx_oF, kx_eqN, kx_nil, kx_c1, kx_ft, kx_aI, kx_aL, kx_aR, kx_ln, Nat.reduceAdd, Option.toList, List.cons_append, List.nil_append, cf1_3]
              repeat (simp only [cW_c, cW_w H, cW_t H, cW_q H, cW_f H, cW_s H, cW_65 H, cW_66 H, cW_1 H, cW_k H, cW_pc, cW_pk H, pk_us, pk_un, ne_eq, Nat.reduceEqDiff, not_false_eq_true, hto, z4, z5, z6, z7, lg_cmp_ge, lg_cmp_le, lg_cmp_gt, lg_cmp_lt, lg_cmp_eq, cp1_3, ks_eq, ks_ss, z9]; try dsimp only [kx_wp, kx_step, kx_lI, kx_lL, kx_lA, kx_gl, kx_pI, kx_pL, kx_pR, kx_pA, kx_pV, kx_s1, kx_s2, kx_sl, kx_pre, kx_c2, kx_pl, kx_cmp, kx_oF, kx_eqN, kx_nil, kx_c1, kx_ft, kx_aI, kx_aL, kx_aR, kx_ln, Nat.reduceAdd, Option.toList, List.cons_append, List.nil_append, cf1_3])
              repeat' apply And.intro
              all_goals try (first | with_reducible assumption | (with_reducible refine ck_nzI ?_; simp; done) | (with_reducible refine ck_nzL ?_; simp; done) | (with_reducible refine vp_in_nI ?_ ?_ <;> first | omega | decide) | (with_reducible refine Nat.le_of_ble_eq_true ?_; rfl) | omega | exact Or.inl trivial | exact Or.inr trivial | exact Or.inl rfl | exact Or.inr rfl)
              have zi := ih (k + 1) (by omega)
              rw [ck_hh, cx_hd, if_neg hlt] at zi
              simp only [zc35, ze35, ze48, ze60, ↓reduceIte] at zi
              exact zi
          · intro zc48
            with_reducible first | have ze48 := Decidable.not_not.mp zc48 | have ze48 := zc48
            refine hB bX1_moveHands_51 _ _ _ _ _ _ _ kX1_moveHands_51 ?_
            dsimp only [bX1_moveHands_51, kx_wp, kx_step, kx_lI, kx_lL, kx_lA, kx_gl, kx_pI, kx_pL, kx_pR, kx_pA, kx_pV, kx_s1, kx_s2, kx_sl, kx_pre, kx_c2, kx_pl, kx_cmp, kx_oF, kx_eqN, kx_nil, kx_c1, kx_ft, kx_aI, kx_aL, kx_aR, kx_ln, Nat.reduceAdd, Option.toList, List.cons_append, List.nil_append, cf1_3]
            repeat (simp only [cW_c, cW_w H, cW_t H, cW_q H, cW_f H, cW_s H, cW_65 H, cW_66 H, cW_1 H, cW_k H, cW_pc, cW_pk H, pk_us, pk_un, ne_eq, Nat.reduceEqDiff, not_false_eq_true, hto, z4, z5, z6, z7, lg_cmp_ge, lg_cmp_le, lg_cmp_gt, lg_cmp_lt, lg_cmp_eq, cp1_3, ks_eq, ks_ss, z9]; try dsimp only [kx_wp, kx_step, kx_lI, kx_lL, kx_lA, kx_gl, kx_pI, kx_pL, kx_pR, kx_pA, kx_pV, kx_s1, kx_s2, kx_sl, kx_pre, kx_c2, kx_pl, kx_cmp, kx_oF, kx_eqN, kx_nil, kx_c1, kx_ft, kx_aI, kx_aL, kx_aR, kx_ln, Nat.reduceAdd, Option.toList, List.cons_append, List.nil_append, cf1_3])
            repeat' apply And.intro
            all_goals try (first | with_reducible assumption | (with_reducible refine ck_nzI ?_; simp; done) | (with_reducible refine ck_nzL ?_; simp; done) | (with_reducible refine vp_in_nI ?_ ?_ <;> first | omega | decide) | (with_reducible refine Nat.le_of_ble_eq_true ?_; rfl) | omega | exact Or.inl trivial | exact Or.inr trivial | exact Or.inl rfl | exact Or.inr rfl)
            refine hB bX1_moveHands_56 _ _ _ _ _ _ _ kX1_moveHands_56 ?_
            dsimp only [bX1_moveHands_56, kx_wp, kx_step, kx_lI, kx_lL, kx_lA, kx_gl, kx_pI, kx_pL, kx_pR, kx_pA, kx_pV, kx_s1, kx_s2, kx_sl, kx_pre, kx_c2, kx_pl, kx_cmp, kx_oF, kx_eqN, kx_nil, kx_c1, kx_ft, kx_aI, kx_aL, kx_aR, kx_ln, Nat.reduceAdd, Option.toList, List.cons_append, List.nil_append, cf1_3]
            repeat (simp only [cW_c, cW_w H, cW_t H, cW_q H, cW_f H, cW_s H, cW_65 H, cW_66 H, cW_1 H, cW_k H, cW_pc, cW_pk H, pk_us, pk_un, ne_eq, Nat.reduceEqDiff, not_false_eq_true, hto, z4, z5, z6, z7, lg_cmp_ge, lg_cmp_le, lg_cmp_gt, lg_cmp_lt, lg_cmp_eq, cp1_3, ks_eq, ks_ss, z9]; try dsimp only [kx_wp, kx_step, kx_lI, kx_lL, kx_lA, kx_gl, kx_pI, kx_pL, kx_pR, kx_pA, kx_pV, kx_s1, kx_s2, kx_sl, kx_pre, kx_c2, kx_pl, kx_cmp, kx_oF, kx_eqN, kx_nil, kx_c1, kx_ft, kx_aI, kx_aL, kx_aR, kx_ln, Nat.reduceAdd, Option.toList, List.cons_append, List.nil_append, cf1_3])
            repeat' apply And.intro
            all_goals try (first | with_reducible assumption | (with_reducible refine ck_nzI ?_; simp; done) | (with_reducible refine ck_nzL ?_; simp; done) | (with_reducible refine vp_in_nI ?_ ?_ <;> first | omega | decide) | (with_reducible refine Nat.le_of_ble_eq_true ?_; rfl) | omega | exact Or.inl trivial | exact Or.inr trivial | exact Or.inl rfl | exact Or.inr rfl)
            · intro zc60
              first | exact absurd rfl zc60 | exact absurd zc60 (by decide) | exact absurd (by decide) zc60 | (exfalso; first | exact zc60 hlt | exact hlt zc60 | exact zc35 hout | exact absurd zc35 (Int64.not_lt.mpr (hin k (by omega)))) | (exfalso; simp_all; done)
            · intro zc60
              have ze60 := zc60
              refine hB bX1_moveHands_63 _ _ _ _ _ _ _ kX1_moveHands_63 ?_
              dsimp only [bX1_moveHands_63, kx_wp, kx_step, kx_lI, kx_lL, kx_lA, kx_gl, kx_pI, kx_pL, kx_pR, kx_pA, kx_pV, kx_s1, kx_s2, kx_sl, kx_pre, kx_c2, kx_pl, kx_cmp, kx_oF, kx_eqN, kx_nil, kx_c1, kx_ft, kx_aI, kx_aL, kx_aR, kx_ln, Nat.reduceAdd, Option.toList, List.cons_append, List.nil_append, cf1_3]
              repeat (simp only [cW_c, cW_w H, cW_t H, cW_q H, cW_f H, cW_s H, cW_65 H, cW_66 H, cW_1 H, cW_k H, cW_pc, cW_pk H, pk_us, pk_un, ne_eq, Nat.reduceEqDiff, not_false_eq_true, hto, z4, z5, z6, z7, lg_cmp_ge, lg_cmp_le, lg_cmp_gt, lg_cmp_lt, lg_cmp_eq, cp1_3, ks_eq, ks_ss, z9]; try dsimp only [kx_wp, kx_step, kx_lI, kx_lL, kx_lA, kx_gl, kx_pI, kx_pL, kx_pR, kx_pA, kx_pV, kx_s1, kx_s2, kx_sl, kx_pre, kx_c2, kx_pl, kx_cmp, kx_oF, kx_eqN, kx_nil, kx_c1, kx_ft, kx_aI, kx_aL, kx_aR, kx_ln, Nat.reduceAdd, Option.toList, List.cons_append, List.nil_append, cf1_3])
              repeat' apply And.intro
              all_goals try (first | with_reducible assumption | (with_reducible refine ck_nzI ?_; simp; done) | (with_reducible refine ck_nzL ?_; simp; done) | (with_reducible refine vp_in_nI ?_ ?_ <;> first | omega | decide) | (with_reducible refine Nat.le_of_ble_eq_true ?_; rfl) | omega | exact Or.inl trivial | exact Or.inr trivial | exact Or.inl rfl | exact Or.inr rfl)
              refine hC.1 155 _ _ _ _ _ _ _ 1 _ _ _ _ _ _ _ _ _ _ _ _ lX1_155 (ct_X1_sound l G H hf (t := lN ((a / 900000000 + 1 + k) * 900000000)) rfl (by omega) rfl) ⟨by decide, rfl⟩ (by first | exact cW_c | exact cW_w H | exact cW_f H | exact cW_65 H) rfl rfl (Nat.le_of_ble_eq_true rfl) (by decide) (by decide) (by omega) (by omega) dX1_moveHands_66 ?_
              refine hB bX1_moveHands_69 _ _ _ _ _ _ _ kX1_moveHands_69 ?_
              dsimp only [bX1_moveHands_69, kx_wp, kx_step, kx_lI, kx_lL, kx_lA, kx_gl, kx_pI, kx_pL, kx_pR, kx_pA, kx_pV, kx_s1, kx_s2, kx_sl, kx_pre, kx_c2, kx_pl, kx_cmp, kx_oF, kx_eqN, kx_nil, kx_c1, kx_ft, kx_aI, kx_aL, kx_aR, kx_ln, Nat.reduceAdd, Option.toList, List.cons_append, List.nil_append, cf1_3]
              repeat (simp only [cW_c, cW_w H, cW_t H, cW_q H, cW_f H, cW_s H, cW_65 H, cW_66 H, cW_1 H, cW_k H, cW_pc, cW_pk H, pk_us, pk_un, ne_eq, Nat.reduceEqDiff, not_false_eq_true, hto, z4, z5, z6, z7, lg_cmp_ge, lg_cmp_le, lg_cmp_gt, lg_cmp_lt, lg_cmp_eq, cp1_3, ks_eq, ks_ss, z9]; try dsimp only [kx_wp, kx_step, kx_lI, kx_lL, kx_lA, kx_gl, kx_pI, kx_pL, kx_pR, kx_pA, kx_pV, kx_s1, kx_s2, kx_sl, kx_pre, kx_c2, kx_pl, kx_cmp, kx_oF, kx_eqN, kx_nil, kx_c1, kx_ft, kx_aI, kx_aL, kx_aR, kx_ln, Nat.reduceAdd, Option.toList, List.cons_append, List.nil_append, cf1_3])
              repeat' apply And.intro
              all_goals try (first | with_reducible assumption | (with_reducible refine ck_nzI ?_; simp; done) | (with_reducible refine ck_nzL ?_; simp; done) | (with_reducible refine vp_in_nI ?_ ?_ <;> first | omega | decide) | (with_reducible refine Nat.le_of_ble_eq_true ?_; rfl) | omega | exact Or.inl trivial | exact Or.inr trivial | exact Or.inl rfl | exact Or.inr rfl)
              have zi := ih (k + 1) (by omega)
              rw [ck_hh, cx_hd, if_neg hlt] at zi
              simp only [zc35, ze35, eq_true ze48, ze60, ↓reduceIte] at zi
              exact zi
  refine hB bX1_moveHands_0 _ _ _ _ _ _ _ kX1_moveHands_0 ?_
  dsimp only [bX1_moveHands_0, kx_wp, kx_step, kx_lI, kx_lL, kx_lA, kx_gl, kx_pI, kx_pL, kx_pR, kx_pA, kx_pV, kx_s1, kx_s2, kx_sl, kx_pre, kx_c2, kx_pl, kx_cmp, kx_oF, kx_eqN, kx_nil, kx_c1, kx_ft, kx_aI, kx_aL, kx_aR, kx_ln, Nat.reduceAdd, Option.toList, List.cons_append, List.nil_append, cf1_3]
  repeat (simp only [cW_c, cW_w H, cW_t H, cW_q H, cW_f H, cW_s H, cW_65 H, cW_66 H, cW_1 H, cW_k H, cW_pc, cW_pk H, pk_us, pk_un, ne_eq, Nat.reduceEqDiff, not_false_eq_true, hto, z4, z5, z6, z7, lg_cmp_ge, lg_cmp_le, lg_cmp_gt, lg_cmp_lt, lg_cmp_eq, cp1_3, ks_eq, ks_ss]; try dsimp only [kx_wp, kx_step, kx_lI, kx_lL, kx_lA, kx_gl, kx_pI, kx_pL, kx_pR, kx_pA, kx_pV, kx_s1, kx_s2, kx_sl, kx_pre, kx_c2, kx_pl, kx_cmp, kx_oF, kx_eqN, kx_nil, kx_c1, kx_ft, kx_aI, kx_aL, kx_aR, kx_ln, Nat.reduceAdd, Option.toList, List.cons_append, List.nil_append, cf1_3])
  repeat' apply And.intro
  all_goals try (first | with_reducible assumption | (with_reducible refine ck_nzI ?_; simp; done) | (with_reducible refine ck_nzL ?_; simp; done) | (with_reducible refine vp_in_nI ?_ ?_ <;> first | omega | decide) | (with_reducible refine Nat.le_of_ble_eq_true ?_; rfl) | omega | exact Or.inl trivial | exact Or.inr trivial | exact Or.inl rfl | exact Or.inr rfl)
  exact loop31 nh 0 (by omega)


def bX11_hands_0 : List kx_O := [(.aload_n 0, 0, 0, 0, .null), (.iconst 0, 0, 0, 0, .int 0), (.putfield 1, 11, 0, 0, .null), (.aload_n 0, 0, 0, 0, .null), (.iload_n 1, 1, 0, 0, .null)]
theorem kX11_hands_0 : kx_oks kxL_X11 false cX11_hands 0 bX11_hands_0 = true := by decide +kernel
def bX11_hands_10 : List kx_O := [(.ifCond .eq 21, 31, 0, 0, .null)]
theorem kX11_hands_10 : kx_oks kxL_X11 false cX11_hands 10 bX11_hands_10 = true := by decide +kernel
def bX11_hands_13 : List kx_O := [(.aload_n 0, 0, 0, 0, .null), (.iload_n 2, 2, 0, 0, .null), (.ldc_w 451, 0, 0, 0, .int (-43200)), (.ldc_w 452, 0, 0, 0, .int (43200))]
theorem kX11_hands_13 : kx_oks kxL_X11 false cX11_hands 13 bX11_hands_13 = true := by decide +kernel
def bX11_hands_24 : List kx_O := [(.iconst 2, 0, 0, 0, .int 2)]
theorem kX11_hands_24 : kx_oks kxL_X11 false cX11_hands 24 bX11_hands_24 = true := by decide +kernel
def bX11_hands_28 : List kx_O := [(.ifCond .ne 5, 33, 0, 0, .null)]
theorem kX11_hands_28 : kx_oks kxL_X11 false cX11_hands 28 bX11_hands_28 = true := by decide +kernel
def bX11_hands_31 : List kx_O := [(.iconst 0, 0, 0, 0, .int 0), (.ireturn, 0, 0, 0, .null)]
theorem kX11_hands_31 : kx_oks kxL_X11 false cX11_hands 31 bX11_hands_31 = true := by decide +kernel
def bX11_hands_33 : List kx_O := [(.aload_n 0, 0, 0, 0, .null), (.getfield 83, 11, 39, 0, .null), (.iload_n 1, 1, 0, 0, .null), (.laload, 0, 0, 0, .null), (.lstore 4, 4, 0, 0, .null), (.lload 4, 4, 0, 0, .null), (.ldc2_w 453, 0, 0, 0, .long (1000000)), (.iload_n 2, 2, 0, 0, .null), (.i2l, 0, 0, 0, .null), (.lmul, 0, 0, 0, .null), (.ladd, 0, 0, 0, .null), (.lstore 6, 6, 0, 0, .null), (.iconst 0, 0, 0, 0, .int 0), (.istore 8, 8, 0, 0, .null), (.lload 4, 4, 0, 0, .null), (.ldc2_w 368, 0, 0, 0, .long (900000000)), (.ldiv, 0, 0, 0, .null), (.lconst 1, 0, 0, 0, .long 1), (.ladd, 0, 0, 0, .null), (.ldc2_w 368, 0, 0, 0, .long (900000000)), (.lmul, 0, 0, 0, .null), (.lstore 9, 9, 0, 0, .null)]
theorem kX11_hands_33 : kx_oks kxL_X11 false cX11_hands 33 bX11_hands_33 = true := by decide +kernel
def bX11_hands_69 : List kx_O := [(.lload 9, 9, 0, 0, .null), (.lload 6, 6, 0, 0, .null), (.lcmp, 0, 0, 0, .null), (.ifCond .gt 48, 122, 0, 0, .null)]
theorem kX11_hands_69 : kx_oks kxL_X11 false cX11_hands 69 bX11_hands_69 = true := by decide +kernel
def bX11_hands_77 : List kx_O := [(.iload 8, 8, 0, 0, .null), (.lload 9, 9, 0, 0, .null), (.ldc2_w 372, 0, 0, 0, .long (3600000000)), (.lrem, 0, 0, 0, .null), (.lconst 0, 0, 0, 0, .long 0), (.lcmp, 0, 0, 0, .null), (.ifCond .ne 7, 94, 0, 0, .null)]
theorem kX11_hands_77 : kx_oks kxL_X11 false cX11_hands 77 bX11_hands_77 = true := by decide +kernel
def bX11_hands_90 : List kx_O := [(.iconst 1, 0, 0, 0, .int 1), (.goto 4, 95, 0, 0, .null)]
theorem kX11_hands_90 : kx_oks kxL_X11 false cX11_hands 90 bX11_hands_90 = true := by decide +kernel
def bX11_hands_94 : List kx_O := [(.iconst 0, 0, 0, 0, .int 0)]
theorem kX11_hands_94 : kx_oks kxL_X11 false cX11_hands 94 bX11_hands_94 = true := by decide +kernel
def bX11_hands_95 : List kx_O := [(.iadd, 0, 0, 0, .null), (.istore 8, 8, 0, 0, .null), (.iload_n 3, 3, 0, 0, .null), (.ifCond .eq 12, 111, 0, 0, .null)]
theorem kX11_hands_95 : kx_oks kxL_X11 false cX11_hands 95 bX11_hands_95 = true := by decide +kernel
def bX11_hands_102 : List kx_O := [(.aload_n 0, 0, 0, 0, .null), (.iload_n 1, 1, 0, 0, .null), (.lload 9, 9, 0, 0, .null)]
theorem kX11_hands_102 : kx_oks kxL_X11 false cX11_hands 102 bX11_hands_102 = true := by decide +kernel
def bX11_hands_109 : List kx_O := [(.istore 11, 11, 0, 0, .null)]
theorem kX11_hands_109 : kx_oks kxL_X11 false cX11_hands 109 bX11_hands_109 = true := by decide +kernel
def bX11_hands_111 : List kx_O := [(.lload 9, 9, 0, 0, .null), (.ldc2_w 368, 0, 0, 0, .long (900000000)), (.ladd, 0, 0, 0, .null), (.lstore 9, 9, 0, 0, .null), (.goto (-50), 69, 0, 0, .null)]
theorem kX11_hands_111 : kx_oks kxL_X11 false cX11_hands 111 bX11_hands_111 = true := by decide +kernel
def bX11_hands_122 : List kx_O := [(.aload_n 0, 0, 0, 0, .null), (.getfield 83, 11, 39, 0, .null), (.iload_n 1, 1, 0, 0, .null), (.lload 6, 6, 0, 0, .null), (.lconst 0, 0, 0, 0, .long 0), (.lcmp, 0, 0, 0, .null), (.ifCond .ge 12, 143, 0, 0, .null)]
theorem kX11_hands_122 : kx_oks kxL_X11 false cX11_hands 122 bX11_hands_122 = true := by decide +kernel
def bX11_hands_134 : List kx_O := [(.lload 6, 6, 0, 0, .null), (.ldc2_w 398, 0, 0, 0, .long (86400000000)), (.ladd, 0, 0, 0, .null), (.goto 23, 163, 0, 0, .null)]
theorem kX11_hands_134 : kx_oks kxL_X11 false cX11_hands 134 bX11_hands_134 = true := by decide +kernel
def bX11_hands_143 : List kx_O := [(.lload 6, 6, 0, 0, .null), (.ldc2_w 398, 0, 0, 0, .long (86400000000)), (.lcmp, 0, 0, 0, .null), (.ifCond .lt 12, 161, 0, 0, .null)]
theorem kX11_hands_143 : kx_oks kxL_X11 false cX11_hands 143 bX11_hands_143 = true := by decide +kernel
def bX11_hands_152 : List kx_O := [(.lload 6, 6, 0, 0, .null), (.ldc2_w 398, 0, 0, 0, .long (86400000000)), (.lsub, 0, 0, 0, .null), (.goto 5, 163, 0, 0, .null)]
theorem kX11_hands_152 : kx_oks kxL_X11 false cX11_hands 152 bX11_hands_152 = true := by decide +kernel
def bX11_hands_161 : List kx_O := [(.lload 6, 6, 0, 0, .null)]
theorem kX11_hands_161 : kx_oks kxL_X11 false cX11_hands 161 bX11_hands_161 = true := by decide +kernel
def bX11_hands_163 : List kx_O := [(.lastore, 0, 0, 0, .null), (.iload 8, 8, 0, 0, .null), (.ireturn, 0, 0, 0, .null)]
theorem kX11_hands_163 : kx_oks kxL_X11 false cX11_hands 163 bX11_hands_163 = true := by decide +kernel
theorem dX11_hands_7 : decode cX11_hands 7 = .ok (.invokevirtual 358, 3) := by decide +kernel
theorem dX11_hands_21 : decode cX11_hands 21 = .ok (.invokestatic 167, 3) := by decide +kernel
theorem dX11_hands_25 : decode cX11_hands 25 = .ok (.invokevirtual 171, 3) := by decide +kernel
theorem dX11_hands_106 : decode cX11_hands 106 = .ok (.invokevirtual 403, 3) := by decide +kernel
set_option maxRecDepth 100000 in
set_option maxHeartbeats 4000000 in
theorem ct_X11_hands_b (l : Launch) (G : kx_G) {M : Nat → Int32} {A : Nat → Nat → Int32} {L : Nat → Nat → Int64} {R : kx_P} {sz : Nat} {cl c : Nat} (h21 : M 21 = nI cl) (hcl : cl ≤ 8) (hc : c < cl) {s lt : Int32} (hi : ¬ ((-43200) ≤ s ∧ s ≤ 43200))  : kx_M l G sX11_hands 4 0 0 [.ref 93, .int (nI c), .int (s), .int (lt)] (mW M A L R) sz (some (.int (0))) (mW (upd (upd M 0 0) 0 2) A L R) sz := by
  refine kx_mk kx_tab kxLok_X11 (ini := false) [some (.ref 93), some (.int (nI c)), some (.int (s)), some (.int (lt)), none, none, none, none, none, none, none, none] ⟨by decide, rfl, by decide, by decide⟩ (⟨_, rfl⟩) rfl rfl (fun g hB hC => ?_)
  refine hB bX11_hands_0 _ _ _ _ _ _ _ kX11_hands_0 ?_
  dsimp only [bX11_hands_0, kx_wp, kx_step, kx_lI, kx_lL, kx_lA, kx_gl, kx_pI, kx_pL, kx_pR, kx_pA, kx_pV, kx_s1, kx_s2, kx_sl, kx_pre, kx_c2, kx_pl, kx_cmp, kx_oF, kx_eqN, kx_nil, kx_c1, kx_ft, kx_aI, kx_aL, kx_aR, kx_ln, Nat.reduceAdd, Option.toList, List.cons_append, List.nil_append, mW_o, mf_0, mf_39, m_116]
  repeat (simp only [mu_0, mW_so, ms_116]; try dsimp only [kx_wp, kx_step, kx_lI, kx_lL, kx_lA, kx_gl, kx_pI, kx_pL, kx_pR, kx_pA, kx_pV, kx_s1, kx_s2, kx_sl, kx_pre, kx_c2, kx_pl, kx_cmp, kx_oF, kx_eqN, kx_nil, kx_c1, kx_ft, kx_aI, kx_aL, kx_aR, kx_ln, Nat.reduceAdd, Option.toList, List.cons_append, List.nil_append, mW_o, mf_0, mf_39, m_116])
  repeat' apply And.intro
  all_goals try (first | with_reducible assumption | (with_reducible refine ck_nzI ?_; simp; done) | (with_reducible refine ck_nzL ?_; simp; done) | (with_reducible refine vp_in_nI ?_ ?_ <;> first | omega | decide) | (with_reducible refine Nat.le_of_ble_eq_true ?_; rfl) | omega)
  refine hC.1 358 _ _ _ _ _ _ _ 11 _ _ _ _ _ _ _ _ _ _ _ _ lX11_358 (ct_X11_isClock_t l G (M := upd M 0 0) h21 hcl hc rfl) ⟨by decide, rfl⟩ (mW_o) rfl rfl (Nat.le_of_ble_eq_true rfl) (by decide) (by decide) (by omega) (by omega) dX11_hands_7 ?_
  refine hB bX11_hands_10 _ _ _ _ _ _ _ kX11_hands_10 ?_
  dsimp only [bX11_hands_10, kx_wp, kx_step, kx_lI, kx_lL, kx_lA, kx_gl, kx_pI, kx_pL, kx_pR, kx_pA, kx_pV, kx_s1, kx_s2, kx_sl, kx_pre, kx_c2, kx_pl, kx_cmp, kx_oF, kx_eqN, kx_nil, kx_c1, kx_ft, kx_aI, kx_aL, kx_aR, kx_ln, Nat.reduceAdd, Option.toList, List.cons_append, List.nil_append, mW_o, mf_0, mf_39, m_116]
  repeat (simp only [mu_0, mW_so, ms_116]; try dsimp only [kx_wp, kx_step, kx_lI, kx_lL, kx_lA, kx_gl, kx_pI, kx_pL, kx_pR, kx_pA, kx_pV, kx_s1, kx_s2, kx_sl, kx_pre, kx_c2, kx_pl, kx_cmp, kx_oF, kx_eqN, kx_nil, kx_c1, kx_ft, kx_aI, kx_aL, kx_aR, kx_ln, Nat.reduceAdd, Option.toList, List.cons_append, List.nil_append, mW_o, mf_0, mf_39, m_116])
  repeat' apply And.intro
  all_goals try (first | with_reducible assumption | (with_reducible refine ck_nzI ?_; simp; done) | (with_reducible refine ck_nzL ?_; simp; done) | (with_reducible refine vp_in_nI ?_ ?_ <;> first | omega | decide) | (with_reducible refine Nat.le_of_ble_eq_true ?_; rfl) | omega)
  · intro zc10
    first | exact absurd rfl zc10 | exact absurd zc10 (by decide) | exact absurd (by decide) zc10 | (exfalso; ((try clear hB hC); simp only [ck_lt, ck_le, ck_eq, not_true_eq_false, not_false_eq_true, Int32.reduceToInt, Int32.reduceAdd, Int32.reduceSub, Int32.reduceMul] at * <;> omega)) | (exfalso; simp_all; done)
  · intro zc10
    have ze10 := zc10
    refine hB bX11_hands_13 _ _ _ _ _ _ _ kX11_hands_13 ?_
    dsimp only [bX11_hands_13, kx_wp, kx_step, kx_lI, kx_lL, kx_lA, kx_gl, kx_pI, kx_pL, kx_pR, kx_pA, kx_pV, kx_s1, kx_s2, kx_sl, kx_pre, kx_c2, kx_pl, kx_cmp, kx_oF, kx_eqN, kx_nil, kx_c1, kx_ft, kx_aI, kx_aL, kx_aR, kx_ln, Nat.reduceAdd, Option.toList, List.cons_append, List.nil_append, mW_o, mf_0, mf_39, m_116]
    repeat (simp only [mu_0, mW_so, ms_116]; try dsimp only [kx_wp, kx_step, kx_lI, kx_lL, kx_lA, kx_gl, kx_pI, kx_pL, kx_pR, kx_pA, kx_pV, kx_s1, kx_s2, kx_sl, kx_pre, kx_c2, kx_pl, kx_cmp, kx_oF, kx_eqN, kx_nil, kx_c1, kx_ft, kx_aI, kx_aL, kx_aR, kx_ln, Nat.reduceAdd, Option.toList, List.cons_append, List.nil_append, mW_o, mf_0, mf_39, m_116])
    repeat' apply And.intro
    all_goals try (first | with_reducible assumption | (with_reducible refine ck_nzI ?_; simp; done) | (with_reducible refine ck_nzL ?_; simp; done) | (with_reducible refine vp_in_nI ?_ ?_ <;> first | omega | decide) | (with_reducible refine Nat.le_of_ble_eq_true ?_; rfl) | omega)
    refine hC.2.1 167 _ _ _ _ _ _ _ _ _ _ _ _ _ _ _ _ _ lX11_167 (ct_X11_within l G) rfl rfl (Nat.le_of_ble_eq_true rfl) (by decide) (by decide) (by omega) (by omega) dX11_hands_21 ?_
    refine hB bX11_hands_24 _ _ _ _ _ _ _ kX11_hands_24 ?_
    dsimp only [bX11_hands_24, kx_wp, kx_step, kx_lI, kx_lL, kx_lA, kx_gl, kx_pI, kx_pL, kx_pR, kx_pA, kx_pV, kx_s1, kx_s2, kx_sl, kx_pre, kx_c2, kx_pl, kx_cmp, kx_oF, kx_eqN, kx_nil, kx_c1, kx_ft, kx_aI, kx_aL, kx_aR, kx_ln, Nat.reduceAdd, Option.toList, List.cons_append, List.nil_append, mW_o, mf_0, mf_39, m_116]
    repeat (simp only [mu_0, mW_so, ms_116]; try dsimp only [kx_wp, kx_step, kx_lI, kx_lL, kx_lA, kx_gl, kx_pI, kx_pL, kx_pR, kx_pA, kx_pV, kx_s1, kx_s2, kx_sl, kx_pre, kx_c2, kx_pl, kx_cmp, kx_oF, kx_eqN, kx_nil, kx_c1, kx_ft, kx_aI, kx_aL, kx_aR, kx_ln, Nat.reduceAdd, Option.toList, List.cons_append, List.nil_append, mW_o, mf_0, mf_39, m_116])
    repeat' apply And.intro
    all_goals try (first | with_reducible assumption | (with_reducible refine ck_nzI ?_; simp; done) | (with_reducible refine ck_nzL ?_; simp; done) | (with_reducible refine vp_in_nI ?_ ?_ <;> first | omega | decide) | (with_reducible refine Nat.le_of_ble_eq_true ?_; rfl) | omega)
    rw [if_neg hi]
    refine hC.1 171 _ _ _ _ _ _ _ 11 _ _ _ _ _ _ _ _ _ _ _ _ lX11_171 (ct_X11_may_f l G (M := upd M 0 0) rfl (by decide)) ⟨by decide, rfl⟩ (mW_o) rfl rfl (Nat.le_of_ble_eq_true rfl) (by decide) (by decide) (by omega) (by omega) dX11_hands_25 ?_
    refine hB bX11_hands_28 _ _ _ _ _ _ _ kX11_hands_28 ?_
    dsimp only [bX11_hands_28, kx_wp, kx_step, kx_lI, kx_lL, kx_lA, kx_gl, kx_pI, kx_pL, kx_pR, kx_pA, kx_pV, kx_s1, kx_s2, kx_sl, kx_pre, kx_c2, kx_pl, kx_cmp, kx_oF, kx_eqN, kx_nil, kx_c1, kx_ft, kx_aI, kx_aL, kx_aR, kx_ln, Nat.reduceAdd, Option.toList, List.cons_append, List.nil_append, mW_o, mf_0, mf_39, m_116]
    repeat (simp only [mu_0, mW_so, ms_116]; try dsimp only [kx_wp, kx_step, kx_lI, kx_lL, kx_lA, kx_gl, kx_pI, kx_pL, kx_pR, kx_pA, kx_pV, kx_s1, kx_s2, kx_sl, kx_pre, kx_c2, kx_pl, kx_cmp, kx_oF, kx_eqN, kx_nil, kx_c1, kx_ft, kx_aI, kx_aL, kx_aR, kx_ln, Nat.reduceAdd, Option.toList, List.cons_append, List.nil_append, mW_o, mf_0, mf_39, m_116])
    repeat' apply And.intro
    all_goals try (first | with_reducible assumption | (with_reducible refine ck_nzI ?_; simp; done) | (with_reducible refine ck_nzL ?_; simp; done) | (with_reducible refine vp_in_nI ?_ ?_ <;> first | omega | decide) | (with_reducible refine Nat.le_of_ble_eq_true ?_; rfl) | omega)
    · intro zc28
      first | exact absurd rfl zc28 | exact absurd zc28 (by decide) | exact absurd (by decide) zc28 | (exfalso; ((try clear hB hC); simp only [ck_lt, ck_le, ck_eq, not_true_eq_false, not_false_eq_true, Int32.reduceToInt, Int32.reduceAdd, Int32.reduceSub, Int32.reduceMul] at * <;> omega)) | (exfalso; simp_all; done)
    · intro zc28
      with_reducible first | have ze28 := Decidable.not_not.mp zc28 | have ze28 := zc28
      refine hB bX11_hands_31 _ _ _ _ _ _ _ kX11_hands_31 ?_
      dsimp only [bX11_hands_31, kx_wp, kx_step, kx_lI, kx_lL, kx_lA, kx_gl, kx_pI, kx_pL, kx_pR, kx_pA, kx_pV, kx_s1, kx_s2, kx_sl, kx_pre, kx_c2, kx_pl, kx_cmp, kx_oF, kx_eqN, kx_nil, kx_c1, kx_ft, kx_aI, kx_aL, kx_aR, kx_ln, Nat.reduceAdd, Option.toList, List.cons_append, List.nil_append, mW_o, mf_0, mf_39, m_116]
      repeat (simp only [mu_0, mW_so, ms_116]; try dsimp only [kx_wp, kx_step, kx_lI, kx_lL, kx_lA, kx_gl, kx_pI, kx_pL, kx_pR, kx_pA, kx_pV, kx_s1, kx_s2, kx_sl, kx_pre, kx_c2, kx_pl, kx_cmp, kx_oF, kx_eqN, kx_nil, kx_c1, kx_ft, kx_aI, kx_aL, kx_aR, kx_ln, Nat.reduceAdd, Option.toList, List.cons_append, List.nil_append, mW_o, mf_0, mf_39, m_116])
      all_goals (repeat' apply And.intro)
      all_goals ((try clear hB hC); first | exact True.intro | with_reducible rfl | with_reducible assumption | (with_reducible refine vp_in_nI ?_ ?_ <;> first | omega | decide) | exact Nat.le_of_ble_eq_true rfl | (with_reducible refine ck_nzI ?_; simp; done) | (with_reducible refine ck_nzL ?_; simp; done) | (simp only [pk_us, pk_uLs, ze10, eq_true ze28, ↓reduceIte, not_true_eq_false, not_false_eq_true]; done) | (simp only [ze10, eq_true ze28, ↓reduceIte, not_true_eq_false, not_false_eq_true]; with_reducible rfl) | skip)

set_option maxRecDepth 100000 in
set_option maxHeartbeats 4000000 in
theorem ct_X11_hands_f (l : Launch) (G : kx_G) {M : Nat → Int32} {A : Nat → Nat → Int32} {L : Nat → Nat → Int64} {R : kx_P} {sz : Nat} {x : Int32} {s lt : Int32} (hx : ¬ (0 ≤ x ∧ x ≤ M 21 - 1)) : kx_M l G sX11_hands 4 0 0 [.ref 93, .int (x), .int (s), .int (lt)] (mW M A L R) sz (some (.int (0))) (mW (upd (upd M 0 0) 0 1) A L R) sz := by
  refine kx_mk kx_tab kxLok_X11 (ini := false) [some (.ref 93), some (.int (x)), some (.int (s)), some (.int (lt)), none, none, none, none, none, none, none, none] ⟨by decide, rfl, by decide, by decide⟩ (⟨_, rfl⟩) rfl rfl (fun g hB hC => ?_)
  refine hB bX11_hands_0 _ _ _ _ _ _ _ kX11_hands_0 ?_
  dsimp only [bX11_hands_0, kx_wp, kx_step, kx_lI, kx_lL, kx_lA, kx_gl, kx_pI, kx_pL, kx_pR, kx_pA, kx_pV, kx_s1, kx_s2, kx_sl, kx_pre, kx_c2, kx_pl, kx_cmp, kx_oF, kx_eqN, kx_nil, kx_c1, kx_ft, kx_aI, kx_aL, kx_aR, kx_ln, Nat.reduceAdd, Option.toList, List.cons_append, List.nil_append, mW_o, mf_0, mf_39, m_116]
  repeat (simp only [mu_0, mW_so, ms_116]; try dsimp only [kx_wp, kx_step, kx_lI, kx_lL, kx_lA, kx_gl, kx_pI, kx_pL, kx_pR, kx_pA, kx_pV, kx_s1, kx_s2, kx_sl, kx_pre, kx_c2, kx_pl, kx_cmp, kx_oF, kx_eqN, kx_nil, kx_c1, kx_ft, kx_aI, kx_aL, kx_aR, kx_ln, Nat.reduceAdd, Option.toList, List.cons_append, List.nil_append, mW_o, mf_0, mf_39, m_116])
  repeat' apply And.intro
  all_goals try (first | with_reducible assumption | (with_reducible refine ck_nzI ?_; simp; done) | (with_reducible refine ck_nzL ?_; simp; done) | (with_reducible refine vp_in_nI ?_ ?_ <;> first | omega | decide) | (with_reducible refine Nat.le_of_ble_eq_true ?_; rfl) | omega)
  have hx2 : ¬ (0 ≤ x ∧ x ≤ upd M 0 0 21 - 1) := by rw [show upd M 0 0 21 = M 21 from rfl]; exact hx
  refine hC.1 358 _ _ _ _ _ _ _ 11 _ _ _ _ _ _ _ _ _ _ _ _ lX11_358 (ct_X11_isClock_f l G (M := upd M 0 0) hx2 rfl) ⟨by decide, rfl⟩ (mW_o) rfl rfl (Nat.le_of_ble_eq_true rfl) (by decide) (by decide) (by omega) (by omega) dX11_hands_7 ?_
  refine hB bX11_hands_10 _ _ _ _ _ _ _ kX11_hands_10 ?_
  dsimp only [bX11_hands_10, kx_wp, kx_step, kx_lI, kx_lL, kx_lA, kx_gl, kx_pI, kx_pL, kx_pR, kx_pA, kx_pV, kx_s1, kx_s2, kx_sl, kx_pre, kx_c2, kx_pl, kx_cmp, kx_oF, kx_eqN, kx_nil, kx_c1, kx_ft, kx_aI, kx_aL, kx_aR, kx_ln, Nat.reduceAdd, Option.toList, List.cons_append, List.nil_append, mW_o, mf_0, mf_39, m_116]
  repeat (simp only [mu_0, mW_so, ms_116]; try dsimp only [kx_wp, kx_step, kx_lI, kx_lL, kx_lA, kx_gl, kx_pI, kx_pL, kx_pR, kx_pA, kx_pV, kx_s1, kx_s2, kx_sl, kx_pre, kx_c2, kx_pl, kx_cmp, kx_oF, kx_eqN, kx_nil, kx_c1, kx_ft, kx_aI, kx_aL, kx_aR, kx_ln, Nat.reduceAdd, Option.toList, List.cons_append, List.nil_append, mW_o, mf_0, mf_39, m_116])
  repeat' apply And.intro
  all_goals try (first | with_reducible assumption | (with_reducible refine ck_nzI ?_; simp; done) | (with_reducible refine ck_nzL ?_; simp; done) | (with_reducible refine vp_in_nI ?_ ?_ <;> first | omega | decide) | (with_reducible refine Nat.le_of_ble_eq_true ?_; rfl) | omega)
  · intro zc10
    have ze10 := zc10
    refine hB bX11_hands_31 _ _ _ _ _ _ _ kX11_hands_31 ?_
    dsimp only [bX11_hands_31, kx_wp, kx_step, kx_lI, kx_lL, kx_lA, kx_gl, kx_pI, kx_pL, kx_pR, kx_pA, kx_pV, kx_s1, kx_s2, kx_sl, kx_pre, kx_c2, kx_pl, kx_cmp, kx_oF, kx_eqN, kx_nil, kx_c1, kx_ft, kx_aI, kx_aL, kx_aR, kx_ln, Nat.reduceAdd, Option.toList, List.cons_append, List.nil_append, mW_o, mf_0, mf_39, m_116]
    repeat (simp only [mu_0, mW_so, ms_116]; try dsimp only [kx_wp, kx_step, kx_lI, kx_lL, kx_lA, kx_gl, kx_pI, kx_pL, kx_pR, kx_pA, kx_pV, kx_s1, kx_s2, kx_sl, kx_pre, kx_c2, kx_pl, kx_cmp, kx_oF, kx_eqN, kx_nil, kx_c1, kx_ft, kx_aI, kx_aL, kx_aR, kx_ln, Nat.reduceAdd, Option.toList, List.cons_append, List.nil_append, mW_o, mf_0, mf_39, m_116])
    all_goals (repeat' apply And.intro)
    all_goals ((try clear hB hC); first | exact True.intro | with_reducible rfl | with_reducible assumption | (with_reducible refine vp_in_nI ?_ ?_ <;> first | omega | decide) | exact Nat.le_of_ble_eq_true rfl | (with_reducible refine ck_nzI ?_; simp; done) | (with_reducible refine ck_nzL ?_; simp; done) | (simp only [pk_us, pk_uLs, eq_true ze10, ↓reduceIte, not_true_eq_false, not_false_eq_true]; done) | (simp only [eq_true ze10, ↓reduceIte, not_true_eq_false, not_false_eq_true]; with_reducible rfl) | skip)
  · intro zc10
    first | exact absurd rfl zc10 | exact absurd zc10 (by decide) | exact absurd (by decide) zc10 | (exfalso; ((try clear hB hC); simp only [ck_lt, ck_le, ck_eq, not_true_eq_false, not_false_eq_true, Int32.reduceToInt, Int32.reduceAdd, Int32.reduceSub, Int32.reduceMul] at * <;> omega)) | (exfalso; simp_all; done)

set_option maxRecDepth 100000 in
set_option maxHeartbeats 4000000 in
theorem ct_X11_hands_t (l : Launch) (G : kx_G) {M : Nat → Int32} {A : Nat → Nat → Int32} {L : Nat → Nat → Int64} {R : kx_P} {sz : Nat} {cl c : Nat} (h21 : M 21 = nI cl) (hcl : cl ≤ 8) (hc : c < cl) {a : Nat} (hd : L 116 c = lN a) (ha : a < 86400000000) (hw : ck_wf A c) {s lt : Int32} (hs : (-43200) ≤ s ∧ s ≤ 43200) {to : Int64} (hto : lN a + 1000000 * s.toInt64 = to) {nh : Nat} (hnh : nh ≤ 60) (hin : ∀ k, k < nh → lN ((a / 900000000 + 1 + k) * 900000000) ≤ to) (hout : to < lN ((a / 900000000 + 1 + nh) * 900000000))  : kx_M l G sX11_hands 4 0 0 [.ref 93, .int (nI c), .int (s), .int (lt)] (mW M A L R) sz (some (.int (ck_hh a nh))) (mW (ck_hd (upd M 0 0) A c lt a nh).1 (ck_hd (upd M 0 0) A c lt a nh).2 (va_up L 116 (vp_updL (L 116) c (ck_wr2 to))) R) sz := by
  have z4 : lN a / 900000000 = lN (a / 900000000) := pk_lDiv (b := 900000000) (by omega) (by omega) (by omega)
  have z5 := lN_1 (a / 900000000)
  have z6 : lN (a / 900000000 + 1) * 900000000 = lN ((a / 900000000 + 1 + 0) * 900000000) := lN_mul _ 900000000
  have z7 : ∀ k, lN ((a / 900000000 + 1 + k) * 900000000) + 900000000 = lN ((a / 900000000 + 1 + (k + 1)) * 900000000) := fun k => (lN_add ((a / 900000000 + 1 + k) * 900000000) 900000000).trans (congrArg (fun z => lN z) (by omega))
  have z8 : ∀ k, k < 60 → lN ((a / 900000000 + 1 + k) * 900000000) - lN ((a / 900000000 + 1 + k) * 900000000) / 3600000000 * 3600000000 = lN ((a / 900000000 + 1 + k) * 900000000 % 3600000000) := fun k hk => pk_lRem (b := 3600000000) (by omega) (by omega) (by omega)
  refine kx_mk kx_tab kxLok_X11 (ini := false) [some (.ref 93), some (.int (nI c)), some (.int (s)), some (.int (lt)), none, none, none, none, none, none, none, none] ⟨by decide, rfl, by decide, by decide⟩ (⟨_, rfl⟩) rfl rfl (fun g hB hC => ?_)
  have loop69 : ∀ (n9 : Nat) (k : Nat) (x : Option Value), k + n9 = nh → g 69 [some (.ref 93), some (.int (nI c)), some (.int (s)), some (.int (lt)), some (.long (lN a)), none, some (.long to), none, some (.int (ck_hh a k)), some (.long (lN ((a / 900000000 + 1 + k) * 900000000))), none, x] [] (mW (ck_hd (upd M 0 0) A c lt a k).1 (ck_hd (upd M 0 0) A c lt a k).2 L R) sz 0 0 := by
    intro n9
    induction n9 with
    | zero =>
      intro k x hk
      obtain rfl : k = nh := by omega
      refine hB bX11_hands_69 _ _ _ _ _ _ _ kX11_hands_69 ?_
      dsimp only [bX11_hands_69, kx_wp, kx_step, kx_lI, kx_lL, kx_lA, kx_gl, kx_pI, kx_pL, kx_pR, kx_pA, kx_pV, kx_s1, kx_s2, kx_sl, kx_pre, kx_c2, kx_pl, kx_cmp, kx_oF, kx_eqN, kx_nil, kx_c1, kx_ft, kx_aI, kx_aL, kx_aR, kx_ln, Nat.reduceAdd, Option.toList, List.cons_append, List.nil_append, mW_o, mf_0, mf_39, m_116]
      repeat (simp only [mu_0, mW_so, ms_116, hd, hto, z4, z5, z6, z7, lg_cmp_ge, lg_cmp_le, lg_cmp_gt, lg_cmp_lt, lg_cmp_eq, nI_clamp (show c < 2 ^ 31 by omega)]; try dsimp only [kx_wp, kx_step, kx_lI, kx_lL, kx_lA, kx_gl, kx_pI, kx_pL, kx_pR, kx_pA, kx_pV, kx_s1, kx_s2, kx_sl, kx_pre, kx_c2, kx_pl, kx_cmp, kx_oF, kx_eqN, kx_nil, kx_c1, kx_ft, kx_aI, kx_aL, kx_aR, kx_ln, Nat.reduceAdd, Option.toList, List.cons_append, List.nil_append, mW_o, mf_0, mf_39, m_116])
      repeat' apply And.intro
      all_goals try (first | with_reducible assumption | (with_reducible refine ck_nzI ?_; simp; done) | (with_reducible refine ck_nzL ?_; simp; done) | (with_reducible refine vp_in_nI ?_ ?_ <;> first | omega | decide) | (with_reducible refine Nat.le_of_ble_eq_true ?_; rfl) | omega)
      · intro zc74
        with_reducible first | have ze74 := Int64.not_le.mpr zc74 | have ze74 := zc74
        refine hB bX11_hands_122 _ _ _ _ _ _ _ kX11_hands_122 ?_
        dsimp only [bX11_hands_122, kx_wp, kx_step, kx_lI, kx_lL, kx_lA, kx_gl, kx_pI, kx_pL, kx_pR, kx_pA, kx_pV, kx_s1, kx_s2, kx_sl, kx_pre, kx_c2, kx_pl, kx_cmp, kx_oF, kx_eqN, kx_nil, kx_c1, kx_ft, kx_aI, kx_aL, kx_aR, kx_ln, Nat.reduceAdd, Option.toList, List.cons_append, List.nil_append, mW_o, mf_0, mf_39, m_116]
        repeat (simp only [mu_0, mW_so, ms_116, hd, hto, z4, z5, z6, z7, lg_cmp_ge, lg_cmp_le, lg_cmp_gt, lg_cmp_lt, lg_cmp_eq, nI_clamp (show c < 2 ^ 31 by omega)]; try dsimp only [kx_wp, kx_step, kx_lI, kx_lL, kx_lA, kx_gl, kx_pI, kx_pL, kx_pR, kx_pA, kx_pV, kx_s1, kx_s2, kx_sl, kx_pre, kx_c2, kx_pl, kx_cmp, kx_oF, kx_eqN, kx_nil, kx_c1, kx_ft, kx_aI, kx_aL, kx_aR, kx_ln, Nat.reduceAdd, Option.toList, List.cons_append, List.nil_append, mW_o, mf_0, mf_39, m_116])
        repeat' apply And.intro
        all_goals try (first | with_reducible assumption | (with_reducible refine ck_nzI ?_; simp; done) | (with_reducible refine ck_nzL ?_; simp; done) | (with_reducible refine vp_in_nI ?_ ?_ <;> first | omega | decide) | (with_reducible refine Nat.le_of_ble_eq_true ?_; rfl) | omega)
        · intro zc131
          with_reducible first | have ze131 := Int64.not_lt.mpr zc131 | have ze131 := zc131
          refine hB bX11_hands_143 _ _ _ _ _ _ _ kX11_hands_143 ?_
          dsimp only [bX11_hands_143, kx_wp, kx_step, kx_lI, kx_lL, kx_lA, kx_gl, kx_pI, kx_pL, kx_pR, kx_pA, kx_pV, kx_s1, kx_s2, kx_sl, kx_pre, kx_c2, kx_pl, kx_cmp, kx_oF, kx_eqN, kx_nil, kx_c1, kx_ft, kx_aI, kx_aL, kx_aR, kx_ln, Nat.reduceAdd, Option.toList, List.cons_append, List.nil_append, mW_o, mf_0, mf_39, m_116]
          repeat (simp only [mu_0, mW_so, ms_116, hd, hto, z4, z5, z6, z7, lg_cmp_ge, lg_cmp_le, lg_cmp_gt, lg_cmp_lt, lg_cmp_eq, nI_clamp (show c < 2 ^ 31 by omega)]; try dsimp only [kx_wp, kx_step, kx_lI, kx_lL, kx_lA, kx_gl, kx_pI, kx_pL, kx_pR, kx_pA, kx_pV, kx_s1, kx_s2, kx_sl, kx_pre, kx_c2, kx_pl, kx_cmp, kx_oF, kx_eqN, kx_nil, kx_c1, kx_ft, kx_aI, kx_aL, kx_aR, kx_ln, Nat.reduceAdd, Option.toList, List.cons_append, List.nil_append, mW_o, mf_0, mf_39, m_116])
          repeat' apply And.intro
          all_goals try (first | with_reducible assumption | (with_reducible refine ck_nzI ?_; simp; done) | (with_reducible refine ck_nzL ?_; simp; done) | (with_reducible refine vp_in_nI ?_ ?_ <;> first | omega | decide) | (with_reducible refine Nat.le_of_ble_eq_true ?_; rfl) | omega)
          · intro zc149
            with_reducible first | have ze149 := Int64.not_le.mpr zc149 | have ze149 := zc149
            refine hB bX11_hands_161 _ _ _ _ _ _ _ kX11_hands_161 ?_
            dsimp only [bX11_hands_161, kx_wp, kx_step, kx_lI, kx_lL, kx_lA, kx_gl, kx_pI, kx_pL, kx_pR, kx_pA, kx_pV, kx_s1, kx_s2, kx_sl, kx_pre, kx_c2, kx_pl, kx_cmp, kx_oF, kx_eqN, kx_nil, kx_c1, kx_ft, kx_aI, kx_aL, kx_aR, kx_ln, Nat.reduceAdd, Option.toList, List.cons_append, List.nil_append, mW_o, mf_0, mf_39, m_116]
            repeat (simp only [mu_0, mW_so, ms_116, hd, hto, z4, z5, z6, z7, lg_cmp_ge, lg_cmp_le, lg_cmp_gt, lg_cmp_lt, lg_cmp_eq, nI_clamp (show c < 2 ^ 31 by omega)]; try dsimp only [kx_wp, kx_step, kx_lI, kx_lL, kx_lA, kx_gl, kx_pI, kx_pL, kx_pR, kx_pA, kx_pV, kx_s1, kx_s2, kx_sl, kx_pre, kx_c2, kx_pl, kx_cmp, kx_oF, kx_eqN, kx_nil, kx_c1, kx_ft, kx_aI, kx_aL, kx_aR, kx_ln, Nat.reduceAdd, Option.toList, List.cons_append, List.nil_append, mW_o, mf_0, mf_39, m_116])
            repeat' apply And.intro
            all_goals try (first | with_reducible assumption | (with_reducible refine ck_nzI ?_; simp; done) | (with_reducible refine ck_nzL ?_; simp; done) | (with_reducible refine vp_in_nI ?_ ?_ <;> first | omega | decide) | (with_reducible refine Nat.le_of_ble_eq_true ?_; rfl) | omega)
            refine hB bX11_hands_163 _ _ _ _ _ _ _ kX11_hands_163 ?_
            dsimp only [bX11_hands_163, kx_wp, kx_step, kx_lI, kx_lL, kx_lA, kx_gl, kx_pI, kx_pL, kx_pR, kx_pA, kx_pV, kx_s1, kx_s2, kx_sl, kx_pre, kx_c2, kx_pl, kx_cmp, kx_oF, kx_eqN, kx_nil, kx_c1, kx_ft, kx_aI, kx_aL, kx_aR, kx_ln, Nat.reduceAdd, Option.toList, List.cons_append, List.nil_append, mW_o, mf_0, mf_39, m_116]
            repeat (simp only [mu_0, mW_so, ms_116, hd, hto, z4, z5, z6, z7, lg_cmp_ge, lg_cmp_le, lg_cmp_gt, lg_cmp_lt, lg_cmp_eq, nI_clamp (show c < 2 ^ 31 by omega)]; try dsimp only [kx_wp, kx_step, kx_lI, kx_lL, kx_lA, kx_gl, kx_pI, kx_pL, kx_pR, kx_pA, kx_pV, kx_s1, kx_s2, kx_sl, kx_pre, kx_c2, kx_pl, kx_cmp, kx_oF, kx_eqN, kx_nil, kx_c1, kx_ft, kx_aI, kx_aL, kx_aR, kx_ln, Nat.reduceAdd, Option.toList, List.cons_append, List.nil_append, mW_o, mf_0, mf_39, m_116])
            all_goals (repeat' apply And.intro)
            all_goals ((try clear hB hC); first | exact True.intro | with_reducible rfl | exact vp_in_nI (by omega) (by decide) | exact Nat.le_of_ble_eq_true rfl | (simp only [ck_wr2, zc74, ze74, zc131, ze131, zc149, ze149, ↓reduceIte]; done) | (simp only [ck_wr2, zc74, ze74, zc131, ze131, zc149, ze149, ↓reduceIte]; rfl) | skip)
          · intro zc149
            with_reducible first | have ze149 := Int64.not_lt.mp zc149 | have ze149 := zc149
            refine hB bX11_hands_152 _ _ _ _ _ _ _ kX11_hands_152 ?_
            dsimp only [bX11_hands_152, kx_wp, kx_step, kx_lI, kx_lL, kx_lA, kx_gl, kx_pI, kx_pL, kx_pR, kx_pA, kx_pV, kx_s1, kx_s2, kx_sl, kx_pre, kx_c2, kx_pl, kx_cmp, kx_oF, kx_eqN, kx_nil, kx_c1, kx_ft, kx_aI, kx_aL, kx_aR, kx_ln, Nat.reduceAdd, Option.toList, List.cons_append, List.nil_append, mW_o, mf_0, mf_39, m_116]
            repeat (simp only [mu_0, mW_so, ms_116, hd, hto, z4, z5, z6, z7, lg_cmp_ge, lg_cmp_le, lg_cmp_gt, lg_cmp_lt, lg_cmp_eq, nI_clamp (show c < 2 ^ 31 by omega)]; try dsimp only [kx_wp, kx_step, kx_lI, kx_lL, kx_lA, kx_gl, kx_pI, kx_pL, kx_pR, kx_pA, kx_pV, kx_s1, kx_s2, kx_sl, kx_pre, kx_c2, kx_pl, kx_cmp, kx_oF, kx_eqN, kx_nil, kx_c1, kx_ft, kx_aI, kx_aL, kx_aR, kx_ln, Nat.reduceAdd, Option.toList, List.cons_append, List.nil_append, mW_o, mf_0, mf_39, m_116])
            repeat' apply And.intro
            all_goals try (first | with_reducible assumption | (with_reducible refine ck_nzI ?_; simp; done) | (with_reducible refine ck_nzL ?_; simp; done) | (with_reducible refine vp_in_nI ?_ ?_ <;> first | omega | decide) | (with_reducible refine Nat.le_of_ble_eq_true ?_; rfl) | omega)
            refine hB bX11_hands_163 _ _ _ _ _ _ _ kX11_hands_163 ?_
            dsimp only [bX11_hands_163, kx_wp, kx_step, kx_lI, kx_lL, kx_lA, kx_gl, kx_pI, kx_pL, kx_pR, kx_pA, kx_pV, kx_s1, kx_s2, kx_sl, kx_pre, kx_c2, kx_pl, kx_cmp, kx_oF, kx_eqN, kx_nil, kx_c1, kx_ft, kx_aI, kx_aL, kx_aR, kx_ln, Nat.reduceAdd, Option.toList, List.cons_append, List.nil_append, mW_o, mf_0, mf_39, m_116]
            repeat (simp only [mu_0, mW_so, ms_116, hd, hto, z4, z5, z6, z7, lg_cmp_ge, lg_cmp_le, lg_cmp_gt, lg_cmp_lt, lg_cmp_eq, nI_clamp (show c < 2 ^ 31 by omega)]; try dsimp only [kx_wp, kx_step, kx_lI, kx_lL, kx_lA, kx_gl, kx_pI, kx_pL, kx_pR, kx_pA, kx_pV, kx_s1, kx_s2, kx_sl, kx_pre, kx_c2, kx_pl, kx_cmp, kx_oF, kx_eqN, kx_nil, kx_c1, kx_ft, kx_aI, kx_aL, kx_aR, kx_ln, Nat.reduceAdd, Option.toList, List.cons_append, List.nil_append, mW_o, mf_0, mf_39, m_116])
            all_goals (repeat' apply And.intro)
            all_goals ((try clear hB hC); first | exact True.intro | with_reducible rfl | exact vp_in_nI (by omega) (by decide) | exact Nat.le_of_ble_eq_true rfl | (simp only [ck_wr2, zc74, ze74, zc131, ze131, zc149, ze149, ↓reduceIte]; done) | (simp only [ck_wr2, zc74, ze74, zc131, ze131, zc149, ze149, ↓reduceIte]; rfl) | skip)
        · intro zc131
          with_reducible first | have ze131 := Int64.not_le.mp zc131 | have ze131 := zc131
          refine hB bX11_hands_134 _ _ _ _ _ _ _ kX11_hands_134 ?_
          dsimp only [bX11_hands_134, kx_wp, kx_step, kx_lI, kx_lL, kx_lA, kx_gl, kx_pI, kx_pL, kx_pR, kx_pA, kx_pV, kx_s1, kx_s2, kx_sl, kx_pre, kx_c2, kx_pl, kx_cmp, kx_oF, kx_eqN, kx_nil, kx_c1, kx_ft, kx_aI, kx_aL, kx_aR, kx_ln, Nat.reduceAdd, Option.toList, List.cons_append, List.nil_append, mW_o, mf_0, mf_39, m_116]
          repeat (simp only [mu_0, mW_so, ms_116, hd, hto, z4, z5, z6, z7, lg_cmp_ge, lg_cmp_le, lg_cmp_gt, lg_cmp_lt, lg_cmp_eq, nI_clamp (show c < 2 ^ 31 by omega)]; try dsimp only [kx_wp, kx_step, kx_lI, kx_lL, kx_lA, kx_gl, kx_pI, kx_pL, kx_pR, kx_pA, kx_pV, kx_s1, kx_s2, kx_sl, kx_pre, kx_c2, kx_pl, kx_cmp, kx_oF, kx_eqN, kx_nil, kx_c1, kx_ft, kx_aI, kx_aL, kx_aR, kx_ln, Nat.reduceAdd, Option.toList, List.cons_append, List.nil_append, mW_o, mf_0, mf_39, m_116])
          repeat' apply And.intro
          all_goals try (first | with_reducible assumption | (with_reducible refine ck_nzI ?_; simp; done) | (with_reducible refine ck_nzL ?_; simp; done) | (with_reducible refine vp_in_nI ?_ ?_ <;> first | omega | decide) | (with_reducible refine Nat.le_of_ble_eq_true ?_; rfl) | omega)
          refine hB bX11_hands_163 _ _ _ _ _ _ _ kX11_hands_163 ?_
          dsimp only [bX11_hands_163, kx_wp, kx_step, kx_lI, kx_lL, kx_lA, kx_gl, kx_pI, kx_pL, kx_pR, kx_pA, kx_pV, kx_s1, kx_s2, kx_sl, kx_pre, kx_c2, kx_pl, kx_cmp, kx_oF, kx_eqN, kx_nil, kx_c1, kx_ft, kx_aI, kx_aL, kx_aR, kx_ln, Nat.reduceAdd, Option.toList, List.cons_append, List.nil_append, mW_o, mf_0, mf_39, m_116]
          repeat (simp only [mu_0, mW_so, ms_116, hd, hto, z4, z5, z6, z7, lg_cmp_ge, lg_cmp_le, lg_cmp_gt, lg_cmp_lt, lg_cmp_eq, nI_clamp (show c < 2 ^ 31 by omega)]; try dsimp only [kx_wp, kx_step, kx_lI, kx_lL, kx_lA, kx_gl, kx_pI, kx_pL, kx_pR, kx_pA, kx_pV, kx_s1, kx_s2, kx_sl, kx_pre, kx_c2, kx_pl, kx_cmp, kx_oF, kx_eqN, kx_nil, kx_c1, kx_ft, kx_aI, kx_aL, kx_aR, kx_ln, Nat.reduceAdd, Option.toList, List.cons_append, List.nil_append, mW_o, mf_0, mf_39, m_116])
          all_goals (repeat' apply And.intro)
          all_goals ((try clear hB hC); first | exact True.intro | with_reducible rfl | exact vp_in_nI (by omega) (by decide) | exact Nat.le_of_ble_eq_true rfl | (simp only [ck_wr2, zc74, ze74, zc131, ze131, ↓reduceIte]; done) | (simp only [ck_wr2, zc74, ze74, zc131, ze131, ↓reduceIte]; rfl) | skip)
      · intro zc74
        first | exact absurd rfl zc74 | exact absurd zc74 (by decide) | exact absurd (by decide) zc74 | (exfalso; first | exact zc99 hlt | exact hlt zc99 | exact zc74 hout | exact absurd zc74 (Int64.not_lt.mpr (hin k (by omega)))) | (exfalso; simp_all; done)
    | succ n9 ih =>
      intro k x hk
      have z9 := z8 k (by omega)
      by_cases hlt : lt = 0
      · refine hB bX11_hands_69 _ _ _ _ _ _ _ kX11_hands_69 ?_
        dsimp only [bX11_hands_69, kx_wp, kx_step, kx_lI, kx_lL, kx_lA, kx_gl, kx_pI, kx_pL, kx_pR, kx_pA, kx_pV, kx_s1, kx_s2, kx_sl, kx_pre, kx_c2, kx_pl, kx_cmp, kx_oF, kx_eqN, kx_nil, kx_c1, kx_ft, kx_aI, kx_aL, kx_aR, kx_ln, Nat.reduceAdd, Option.toList, List.cons_append, List.nil_append, mW_o, mf_0, mf_39, m_116]
        repeat (simp only [mu_0, mW_so, ms_116, hd, hto, z4, z5, z6, z7, lg_cmp_ge, lg_cmp_le, lg_cmp_gt, lg_cmp_lt, lg_cmp_eq, nI_clamp (show c < 2 ^ 31 by omega), z9]; try dsimp only [kx_wp, kx_step, kx_lI, kx_lL, kx_lA, kx_gl, kx_pI, kx_pL, kx_pR, kx_pA, kx_pV, kx_s1, kx_s2, kx_sl, kx_pre, kx_c2, kx_pl, kx_cmp, kx_oF, kx_eqN, kx_nil, kx_c1, kx_ft, kx_aI, kx_aL, kx_aR, kx_ln, Nat.reduceAdd, Option.toList, List.cons_append, List.nil_append, mW_o, mf_0, mf_39, m_116])
        repeat' apply And.intro
        all_goals try (first | with_reducible assumption | (with_reducible refine ck_nzI ?_; simp; done) | (with_reducible refine ck_nzL ?_; simp; done) | (with_reducible refine vp_in_nI ?_ ?_ <;> first | omega | decide) | (with_reducible refine Nat.le_of_ble_eq_true ?_; rfl) | omega)
        · intro zc74
          first | exact absurd rfl zc74 | exact absurd zc74 (by decide) | exact absurd (by decide) zc74 | (exfalso; first | exact zc99 hlt | exact hlt zc99 | exact zc74 hout | exact absurd zc74 (Int64.not_lt.mpr (hin k (by omega)))) | (exfalso; simp_all; done)
        · intro zc74
          with_reducible first | have ze74 := Int64.not_lt.mp zc74 | have ze74 := zc74
          refine hB bX11_hands_77 _ _ _ _ _ _ _ kX11_hands_77 ?_
          dsimp only [bX11_hands_77, kx_wp, kx_step, kx_lI, kx_lL, kx_lA, kx_gl, kx_pI, kx_pL, kx_pR, kx_pA, kx_pV, kx_s1, kx_s2, kx_sl, kx_pre, kx_c2, kx_pl, kx_cmp, kx_oF, kx_eqN, kx_nil, kx_c1, kx_ft, kx_aI, kx_aL, kx_aR, kx_ln, Nat.reduceAdd, Option.toList, List.cons_append, List.nil_append, mW_o, mf_0, mf_39, m_116]
          repeat (simp only [mu_0, mW_so, ms_116, hd, hto, z4, z5, z6, z7, lg_cmp_ge, lg_cmp_le, lg_cmp_gt, lg_cmp_lt, lg_cmp_eq, nI_clamp (show c < 2 ^ 31 by omega), z9]; try dsimp only [kx_wp, kx_step, kx_lI, kx_lL, kx_lA, kx_gl, kx_pI, kx_pL, kx_pR, kx_pA, kx_pV, kx_s1, kx_s2, kx_sl, kx_pre, kx_c2, kx_pl, kx_cmp, kx_oF, kx_eqN, kx_nil, kx_c1, kx_ft, kx_aI, kx_aL, kx_aR, kx_ln, Nat.reduceAdd, Option.toList, List.cons_append, List.nil_append, mW_o, mf_0, mf_39, m_116])
          repeat' apply And.intro
          all_goals try (first | with_reducible assumption | (with_reducible refine ck_nzI ?_; simp; done) | (with_reducible refine ck_nzL ?_; simp; done) | (with_reducible refine vp_in_nI ?_ ?_ <;> first | omega | decide) | (with_reducible refine Nat.le_of_ble_eq_true ?_; rfl) | omega)
          · intro zc87
            have ze87 := zc87
            refine hB bX11_hands_94 _ _ _ _ _ _ _ kX11_hands_94 ?_
            dsimp only [bX11_hands_94, kx_wp, kx_step, kx_lI, kx_lL, kx_lA, kx_gl, kx_pI, kx_pL, kx_pR, kx_pA, kx_pV, kx_s1, kx_s2, kx_sl, kx_pre, kx_c2, kx_pl, kx_cmp, kx_oF, kx_eqN, kx_nil, kx_c1, kx_ft, kx_aI, kx_aL, kx_aR, kx_ln, Nat.reduceAdd, Option.toList, List.cons_append, List.nil_append, mW_o, mf_0, mf_39, m_116]
            repeat (simp only [mu_0, mW_so, ms_116, hd, hto, z4, z5, z6, z7, lg_cmp_ge, lg_cmp_le, lg_cmp_gt, lg_cmp_lt, lg_cmp_eq, nI_clamp (show c < 2 ^ 31 by omega), z9]; try dsimp only [kx_wp, kx_step, kx_lI, kx_lL, kx_lA, kx_gl, kx_pI, kx_pL, kx_pR, kx_pA, kx_pV, kx_s1, kx_s2, kx_sl, kx_pre, kx_c2, kx_pl, kx_cmp, kx_oF, kx_eqN, kx_nil, kx_c1, kx_ft, kx_aI, kx_aL, kx_aR, kx_ln, Nat.reduceAdd, Option.toList, List.cons_append, List.nil_append, mW_o, mf_0, mf_39, m_116])
            repeat' apply And.intro
            all_goals try (first | with_reducible assumption | (with_reducible refine ck_nzI ?_; simp; done) | (with_reducible refine ck_nzL ?_; simp; done) | (with_reducible refine vp_in_nI ?_ ?_ <;> first | omega | decide) | (with_reducible refine Nat.le_of_ble_eq_true ?_; rfl) | omega)
            refine hB bX11_hands_95 _ _ _ _ _ _ _ kX11_hands_95 ?_
            dsimp only [bX11_hands_95, kx_wp, kx_step, kx_lI, kx_lL, kx_lA, kx_gl, kx_pI, kx_pL, kx_pR, kx_pA, kx_pV, kx_s1, kx_s2, kx_sl, kx_pre, kx_c2, kx_pl, kx_cmp, kx_oF, kx_eqN, kx_nil, kx_c1, kx_ft, kx_aI, kx_aL, kx_aR, kx_ln, Nat.reduceAdd, Option.toList, List.cons_append, List.nil_append, mW_o, mf_0, mf_39, m_116]
            repeat (simp only [mu_0, mW_so, ms_116, hd, hto, z4, z5, z6, z7, lg_cmp_ge, lg_cmp_le, lg_cmp_gt, lg_cmp_lt, lg_cmp_eq, nI_clamp (show c < 2 ^ 31 by omega), z9]; try dsimp only [kx_wp, kx_step, kx_lI, kx_lL, kx_lA, kx_gl, kx_pI, kx_pL, kx_pR, kx_pA, kx_pV, kx_s1, kx_s2, kx_sl, kx_pre, kx_c2, kx_pl, kx_cmp, kx_oF, kx_eqN, kx_nil, kx_c1, kx_ft, kx_aI, kx_aL, kx_aR, kx_ln, Nat.reduceAdd, Option.toList, List.cons_append, List.nil_append, mW_o, mf_0, mf_39, m_116])
            repeat' apply And.intro
            all_goals try (first | with_reducible assumption | (with_reducible refine ck_nzI ?_; simp; done) | (with_reducible refine ck_nzL ?_; simp; done) | (with_reducible refine vp_in_nI ?_ ?_ <;> first | omega | decide) | (with_reducible refine Nat.le_of_ble_eq_true ?_; rfl) | omega)
            · intro zc99
              have ze99 := zc99
              refine hB bX11_hands_111 _ _ _ _ _ _ _ kX11_hands_111 ?_
              dsimp only [bX11_hands_111, kx_wp, kx_step, kx_lI, kx_lL, kx_lA, kx_gl, kx_pI, kx_pL, kx_pR, kx_pA, kx_pV, kx_s1, kx_s2, kx_sl, kx_pre, kx_c2, kx_pl, kx_cmp, kx_oF, kx_eqN, kx_nil, kx_c1, kx_ft, kx_aI, kx_aL, kx_aR, kx_ln, Nat.reduceAdd, Option.toList, List.cons_append, List.nil_append, mW_o, mf_0, mf_39, m_116]
              repeat (simp only [mu_0, mW_so, ms_116, hd, hto, z4, z5, z6, z7, lg_cmp_ge, lg_cmp_le, lg_cmp_gt, lg_cmp_lt, lg_cmp_eq, nI_clamp (show c < 2 ^ 31 by omega), z9]; try dsimp only [kx_wp, kx_step, kx_lI, kx_lL, kx_lA, kx_gl, kx_pI, kx_pL, kx_pR, kx_pA, kx_pV, kx_s1, kx_s2, kx_sl, kx_pre, kx_c2, kx_pl, kx_cmp, kx_oF, kx_eqN, kx_nil, kx_c1, kx_ft, kx_aI, kx_aL, kx_aR, kx_ln, Nat.reduceAdd, Option.toList, List.cons_append, List.nil_append, mW_o, mf_0, mf_39, m_116])
              repeat' apply And.intro
              all_goals try (first | with_reducible assumption | (with_reducible refine ck_nzI ?_; simp; done) | (with_reducible refine ck_nzL ?_; simp; done) | (with_reducible refine vp_in_nI ?_ ?_ <;> first | omega | decide) | (with_reducible refine Nat.le_of_ble_eq_true ?_; rfl) | omega)
              have zi := fun y => ih (k + 1) y (by omega)
              simp only [ck_hh, ck_hd, if_pos hlt] at zi
              simp only [zc74, ze74, ze87, eq_true ze99, ↓reduceIte] at zi
              exact zi _
            · intro zc99
              first | exact absurd rfl zc99 | exact absurd zc99 (by decide) | exact absurd (by decide) zc99 | (exfalso; first | exact zc99 hlt | exact hlt zc99 | exact zc74 hout | exact absurd zc74 (Int64.not_lt.mpr (hin k (by omega)))) | (exfalso; simp_all; done)
          · intro zc87
            with_reducible first | have ze87 := Decidable.not_not.mp zc87 | have ze87 := zc87
            refine hB bX11_hands_90 _ _ _ _ _ _ _ kX11_hands_90 ?_
            dsimp only [bX11_hands_90, kx_wp, kx_step, kx_lI, kx_lL, kx_lA, kx_gl, kx_pI, kx_pL, kx_pR, kx_pA, kx_pV, kx_s1, kx_s2, kx_sl, kx_pre, kx_c2, kx_pl, kx_cmp, kx_oF, kx_eqN, kx_nil, kx_c1, kx_ft, kx_aI, kx_aL, kx_aR, kx_ln, Nat.reduceAdd, Option.toList, List.cons_append, List.nil_append, mW_o, mf_0, mf_39, m_116]
            repeat (simp only [mu_0, mW_so, ms_116, hd, hto, z4, z5, z6, z7, lg_cmp_ge, lg_cmp_le, lg_cmp_gt, lg_cmp_lt, lg_cmp_eq, nI_clamp (show c < 2 ^ 31 by omega), z9]; try dsimp only [kx_wp, kx_step, kx_lI, kx_lL, kx_lA, kx_gl, kx_pI, kx_pL, kx_pR, kx_pA, kx_pV, kx_s1, kx_s2, kx_sl, kx_pre, kx_c2, kx_pl, kx_cmp, kx_oF, kx_eqN, kx_nil, kx_c1, kx_ft, kx_aI, kx_aL, kx_aR, kx_ln, Nat.reduceAdd, Option.toList, List.cons_append, List.nil_append, mW_o, mf_0, mf_39, m_116])
            repeat' apply And.intro
            all_goals try (first | with_reducible assumption | (with_reducible refine ck_nzI ?_; simp; done) | (with_reducible refine ck_nzL ?_; simp; done) | (with_reducible refine vp_in_nI ?_ ?_ <;> first | omega | decide) | (with_reducible refine Nat.le_of_ble_eq_true ?_; rfl) | omega)
            refine hB bX11_hands_95 _ _ _ _ _ _ _ kX11_hands_95 ?_
            dsimp only [bX11_hands_95, kx_wp, kx_step, kx_lI, kx_lL, kx_lA, kx_gl, kx_pI, kx_pL, kx_pR, kx_pA, kx_pV, kx_s1, kx_s2, kx_sl, kx_pre, kx_c2, kx_pl, kx_cmp, kx_oF, kx_eqN, kx_nil, kx_c1, kx_ft, kx_aI, kx_aL, kx_aR, kx_ln, Nat.reduceAdd, Option.toList, List.cons_append, List.nil_append, mW_o, mf_0, mf_39, m_116]
            repeat (simp only [mu_0, mW_so, ms_116, hd, hto, z4, z5, z6, z7, lg_cmp_ge, lg_cmp_le, lg_cmp_gt, lg_cmp_lt, lg_cmp_eq, nI_clamp (show c < 2 ^ 31 by omega), z9]; try dsimp only [kx_wp, kx_step, kx_lI, kx_lL, kx_lA, kx_gl, kx_pI, kx_pL, kx_pR, kx_pA, kx_pV, kx_s1, kx_s2, kx_sl, kx_pre, kx_c2, kx_pl, kx_cmp, kx_oF, kx_eqN, kx_nil, kx_c1, kx_ft, kx_aI, kx_aL, kx_aR, kx_ln, Nat.reduceAdd, Option.toList, List.cons_append, List.nil_append, mW_o, mf_0, mf_39, m_116])
            repeat' apply And.intro
            all_goals try (first | with_reducible assumption | (with_reducible refine ck_nzI ?_; simp; done) | (with_reducible refine ck_nzL ?_; simp; done) | (with_reducible refine vp_in_nI ?_ ?_ <;> first | omega | decide) | (with_reducible refine Nat.le_of_ble_eq_true ?_; rfl) | omega)
            · intro zc99
              have ze99 := zc99
              refine hB bX11_hands_111 _ _ _ _ _ _ _ kX11_hands_111 ?_
              dsimp only [bX11_hands_111, kx_wp, kx_step, kx_lI, kx_lL, kx_lA, kx_gl, kx_pI, kx_pL, kx_pR, kx_pA, kx_pV, kx_s1, kx_s2, kx_sl, kx_pre, kx_c2, kx_pl, kx_cmp, kx_oF, kx_eqN, kx_nil, kx_c1, kx_ft, kx_aI, kx_aL, kx_aR, kx_ln, Nat.reduceAdd, Option.toList, List.cons_append, List.nil_append, mW_o, mf_0, mf_39, m_116]
              repeat (simp only [mu_0, mW_so, ms_116, hd, hto, z4, z5, z6, z7, lg_cmp_ge, lg_cmp_le, lg_cmp_gt, lg_cmp_lt, lg_cmp_eq, nI_clamp (show c < 2 ^ 31 by omega), z9]; try dsimp only [kx_wp, kx_step, kx_lI, kx_lL, kx_lA, kx_gl, kx_pI, kx_pL, kx_pR, kx_pA, kx_pV, kx_s1, kx_s2, kx_sl, kx_pre, kx_c2, kx_pl, kx_cmp, kx_oF, kx_eqN, kx_nil, kx_c1, kx_ft, kx_aI, kx_aL, kx_aR, kx_ln, Nat.reduceAdd, Option.toList, List.cons_append, List.nil_append, mW_o, mf_0, mf_39, m_116])
              repeat' apply And.intro
              all_goals try (first | with_reducible assumption | (with_reducible refine ck_nzI ?_; simp; done) | (with_reducible refine ck_nzL ?_; simp; done) | (with_reducible refine vp_in_nI ?_ ?_ <;> first | omega | decide) | (with_reducible refine Nat.le_of_ble_eq_true ?_; rfl) | omega)
              have zi := fun y => ih (k + 1) y (by omega)
              simp only [ck_hh, ck_hd, if_pos hlt] at zi
              simp only [zc74, ze74, eq_true ze87, eq_true ze99, ↓reduceIte] at zi
              exact zi _
            · intro zc99
              first | exact absurd rfl zc99 | exact absurd zc99 (by decide) | exact absurd (by decide) zc99 | (exfalso; first | exact zc99 hlt | exact hlt zc99 | exact zc74 hout | exact absurd zc74 (Int64.not_lt.mpr (hin k (by omega)))) | (exfalso; simp_all; done)
      · refine hB bX11_hands_69 _ _ _ _ _ _ _ kX11_hands_69 ?_
        dsimp only [bX11_hands_69, kx_wp, kx_step, kx_lI, kx_lL, kx_lA, kx_gl, kx_pI, kx_pL, kx_pR, kx_pA, kx_pV, kx_s1, kx_s2, kx_sl, kx_pre, kx_c2, kx_pl, kx_cmp, kx_oF, kx_eqN, kx_nil, kx_c1, kx_ft, kx_aI, kx_aL, kx_aR, kx_ln, Nat.reduceAdd, Option.toList, List.cons_append, List.nil_append, mW_o, mf_0, mf_39, m_116]
        repeat (simp only [mu_0, mW_so, ms_116, hd, hto, z4, z5, z6, z7, lg_cmp_ge, lg_cmp_le, lg_cmp_gt, lg_cmp_lt, lg_cmp_eq, nI_clamp (show c < 2 ^ 31 by omega), z9]; try dsimp only [kx_wp, kx_step, kx_lI, kx_lL, kx_lA, kx_gl, kx_pI, kx_pL, kx_pR, kx_pA, kx_pV, kx_s1, kx_s2, kx_sl, kx_pre, kx_c2, kx_pl, kx_cmp, kx_oF, kx_eqN, kx_nil, kx_c1, kx_ft, kx_aI, kx_aL, kx_aR, kx_ln, Nat.reduceAdd, Option.toList, List.cons_append, List.nil_append, mW_o, mf_0, mf_39, m_116])
        repeat' apply And.intro
        all_goals try (first | with_reducible assumption | (with_reducible refine ck_nzI ?_; simp; done) | (with_reducible refine ck_nzL ?_; simp; done) | (with_reducible refine vp_in_nI ?_ ?_ <;> first | omega | decide) | (with_reducible refine Nat.le_of_ble_eq_true ?_; rfl) | omega)
        · intro zc74
          first | exact absurd rfl zc74 | exact absurd zc74 (by decide) | exact absurd (by decide) zc74 | (exfalso; first | exact zc99 hlt | exact hlt zc99 | exact zc74 hout | exact absurd zc74 (Int64.not_lt.mpr (hin k (by omega)))) | (exfalso; simp_all; done)
        · intro zc74
          with_reducible first | have ze74 := Int64.not_lt.mp zc74 | have ze74 := zc74
          refine hB bX11_hands_77 _ _ _ _ _ _ _ kX11_hands_77 ?_
          dsimp only [bX11_hands_77, kx_wp, kx_step, kx_lI, kx_lL, kx_lA, kx_gl, kx_pI, kx_pL, kx_pR, kx_pA, kx_pV, kx_s1, kx_s2, kx_sl, kx_pre, kx_c2, kx_pl, kx_cmp, kx_oF, kx_eqN, kx_nil, kx_c1, kx_ft, kx_aI, kx_aL, kx_aR, kx_ln, Nat.reduceAdd, Option.toList, List.cons_append, List.nil_append, mW_o, mf_0, mf_39, m_116]
          repeat (simp only [mu_0, mW_so, ms_116, hd, hto, z4, z5, z6, z7, lg_cmp_ge, lg_cmp_le, lg_cmp_gt, lg_cmp_lt, lg_cmp_eq, nI_clamp (show c < 2 ^ 31 by omega), z9]; try dsimp only [kx_wp, kx_step, kx_lI, kx_lL, kx_lA, kx_gl, kx_pI, kx_pL, kx_pR, kx_pA, kx_pV, kx_s1, kx_s2, kx_sl, kx_pre, kx_c2, kx_pl, kx_cmp, kx_oF, kx_eqN, kx_nil, kx_c1, kx_ft, kx_aI, kx_aL, kx_aR, kx_ln, Nat.reduceAdd, Option.toList, List.cons_append, List.nil_append, mW_o, mf_0, mf_39, m_116])
          repeat' apply And.intro
          all_goals try (first | with_reducible assumption | (with_reducible refine ck_nzI ?_; simp; done) | (with_reducible refine ck_nzL ?_; simp; done) | (with_reducible refine vp_in_nI ?_ ?_ <;> first | omega | decide) | (with_reducible refine Nat.le_of_ble_eq_true ?_; rfl) | omega)
          · intro zc87
            have ze87 := zc87
            refine hB bX11_hands_94 _ _ _ _ _ _ _ kX11_hands_94 ?_
            dsimp only [bX11_hands_94, kx_wp, kx_step, kx_lI, kx_lL, kx_lA, kx_gl, kx_pI, kx_pL, kx_pR, kx_pA, kx_pV, kx_s1, kx_s2, kx_sl, kx_pre, kx_c2, kx_pl, kx_cmp, kx_oF, kx_eqN, kx_nil, kx_c1, kx_ft, kx_aI, kx_aL, kx_aR, kx_ln, Nat.reduceAdd, Option.toList, List.cons_append, List.nil_append, mW_o, mf_0, mf_39, m_116]
            repeat (simp only [mu_0, mW_so, ms_116, hd, hto, z4, z5, z6, z7, lg_cmp_ge, lg_cmp_le, lg_cmp_gt, lg_cmp_lt, lg_cmp_eq, nI_clamp (show c < 2 ^ 31 by omega), z9]; try dsimp only [kx_wp, kx_step, kx_lI, kx_lL, kx_lA, kx_gl, kx_pI, kx_pL, kx_pR, kx_pA, kx_pV, kx_s1, kx_s2, kx_sl, kx_pre, kx_c2, kx_pl, kx_cmp, kx_oF, kx_eqN, kx_nil, kx_c1, kx_ft, kx_aI, kx_aL, kx_aR, kx_ln, Nat.reduceAdd, Option.toList, List.cons_append, List.nil_append, mW_o, mf_0, mf_39, m_116])
            repeat' apply And.intro
            all_goals try (first | with_reducible assumption | (with_reducible refine ck_nzI ?_; simp; done) | (with_reducible refine ck_nzL ?_; simp; done) | (with_reducible refine vp_in_nI ?_ ?_ <;> first | omega | decide) | (with_reducible refine Nat.le_of_ble_eq_true ?_; rfl) | omega)
            refine hB bX11_hands_95 _ _ _ _ _ _ _ kX11_hands_95 ?_
            dsimp only [bX11_hands_95, kx_wp, kx_step, kx_lI, kx_lL, kx_lA, kx_gl, kx_pI, kx_pL, kx_pR, kx_pA, kx_pV, kx_s1, kx_s2, kx_sl, kx_pre, kx_c2, kx_pl, kx_cmp, kx_oF, kx_eqN, kx_nil, kx_c1, kx_ft, kx_aI, kx_aL, kx_aR, kx_ln, Nat.reduceAdd, Option.toList, List.cons_append, List.nil_append, mW_o, mf_0, mf_39, m_116]
            repeat (simp only [mu_0, mW_so, ms_116, hd, hto, z4, z5, z6, z7, lg_cmp_ge, lg_cmp_le, lg_cmp_gt, lg_cmp_lt, lg_cmp_eq, nI_clamp (show c < 2 ^ 31 by omega), z9]; try dsimp only [kx_wp, kx_step, kx_lI, kx_lL, kx_lA, kx_gl, kx_pI, kx_pL, kx_pR, kx_pA, kx_pV, kx_s1, kx_s2, kx_sl, kx_pre, kx_c2, kx_pl, kx_cmp, kx_oF, kx_eqN, kx_nil, kx_c1, kx_ft, kx_aI, kx_aL, kx_aR, kx_ln, Nat.reduceAdd, Option.toList, List.cons_append, List.nil_append, mW_o, mf_0, mf_39, m_116])
            repeat' apply And.intro
            all_goals try (first | with_reducible assumption | (with_reducible refine ck_nzI ?_; simp; done) | (with_reducible refine ck_nzL ?_; simp; done) | (with_reducible refine vp_in_nI ?_ ?_ <;> first | omega | decide) | (with_reducible refine Nat.le_of_ble_eq_true ?_; rfl) | omega)
            · intro zc99
              first | exact absurd rfl zc99 | exact absurd zc99 (by decide) | exact absurd (by decide) zc99 | (exfalso; first | exact zc99 hlt | exact hlt zc99 | exact zc74 hout | exact absurd zc74 (Int64.not_lt.mpr (hin k (by omega)))) | (exfalso; simp_all; done)
            · intro zc99
              have ze99 := zc99
              refine hB bX11_hands_102 _ _ _ _ _ _ _ kX11_hands_102 ?_
              dsimp only [bX11_hands_102, kx_wp, kx_step, kx_lI, kx_lL, kx_lA, kx_gl, kx_pI, kx_pL, kx_pR, kx_pA, kx_pV, kx_s1, kx_s2, kx_sl, kx_pre, kx_c2, kx_pl, kx_cmp, kx_oF, kx_eqN, kx_nil, kx_c1, kx_ft, kx_aI, kx_aL, kx_aR, kx_ln, Nat.reduceAdd, Option.toList, List.cons_append, List.nil_append, mW_o, mf_0, mf_39, m_116]
              repeat (simp only [mu_0, mW_so, ms_116, hd, hto, z4, z5, z6, z7, lg_cmp_ge, lg_cmp_le, lg_cmp_gt, lg_cmp_lt, lg_cmp_eq, nI_clamp (show c < 2 ^ 31 by omega), z9]; try dsimp only [kx_wp, kx_step, kx_lI, kx_lL, kx_lA, kx_gl, kx_pI, kx_pL, kx_pR, kx_pA, kx_pV, kx_s1, kx_s2, kx_sl, kx_pre, kx_c2, kx_pl, kx_cmp, kx_oF, kx_eqN, kx_nil, kx_c1, kx_ft, kx_aI, kx_aL, kx_aR, kx_ln, Nat.reduceAdd, Option.toList, List.cons_append, List.nil_append, mW_o, mf_0, mf_39, m_116])
              repeat' apply And.intro
              all_goals try (first | with_reducible assumption | (with_reducible refine ck_nzI ?_; simp; done) | (with_reducible refine ck_nzL ?_; simp; done) | (with_reducible refine vp_in_nI ?_ ?_ <;> first | omega | decide) | (with_reducible refine Nat.le_of_ble_eq_true ?_; rfl) | omega)
              refine hC.1 403 _ _ _ _ _ _ _ 11 _ _ _ _ _ _ _ _ _ _ _ _ lX11_403 (ct_X11_sounds l G (by omega) (ck_hd_wf hw k) ⟨_, Nat.mod_lt _ (by omega), ck_q_n (by omega)⟩) ⟨by decide, rfl⟩ (mW_o) rfl rfl (Nat.le_of_ble_eq_true rfl) (by decide) (by decide) (by omega) (by omega) dX11_hands_106 ?_
              refine hB bX11_hands_109 _ _ _ _ _ _ _ kX11_hands_109 ?_
              dsimp only [bX11_hands_109, kx_wp, kx_step, kx_lI, kx_lL, kx_lA, kx_gl, kx_pI, kx_pL, kx_pR, kx_pA, kx_pV, kx_s1, kx_s2, kx_sl, kx_pre, kx_c2, kx_pl, kx_cmp, kx_oF, kx_eqN, kx_nil, kx_c1, kx_ft, kx_aI, kx_aL, kx_aR, kx_ln, Nat.reduceAdd, Option.toList, List.cons_append, List.nil_append, mW_o, mf_0, mf_39, m_116]
              repeat (simp only [mu_0, mW_so, ms_116, hd, hto, z4, z5, z6, z7, lg_cmp_ge, lg_cmp_le, lg_cmp_gt, lg_cmp_lt, lg_cmp_eq, nI_clamp (show c < 2 ^ 31 by omega), z9]; try dsimp only [kx_wp, kx_step, kx_lI, kx_lL, kx_lA, kx_gl, kx_pI, kx_pL, kx_pR, kx_pA, kx_pV, kx_s1, kx_s2, kx_sl, kx_pre, kx_c2, kx_pl, kx_cmp, kx_oF, kx_eqN, kx_nil, kx_c1, kx_ft, kx_aI, kx_aL, kx_aR, kx_ln, Nat.reduceAdd, Option.toList, List.cons_append, List.nil_append, mW_o, mf_0, mf_39, m_116])
              repeat' apply And.intro
              all_goals try (first | with_reducible assumption | (with_reducible refine ck_nzI ?_; simp; done) | (with_reducible refine ck_nzL ?_; simp; done) | (with_reducible refine vp_in_nI ?_ ?_ <;> first | omega | decide) | (with_reducible refine Nat.le_of_ble_eq_true ?_; rfl) | omega)
              refine hB bX11_hands_111 _ _ _ _ _ _ _ kX11_hands_111 ?_
              dsimp only [bX11_hands_111, kx_wp, kx_step, kx_lI, kx_lL, kx_lA, kx_gl, kx_pI, kx_pL, kx_pR, kx_pA, kx_pV, kx_s1, kx_s2, kx_sl, kx_pre, kx_c2, kx_pl, kx_cmp, kx_oF, kx_eqN, kx_nil, kx_c1, kx_ft, kx_aI, kx_aL, kx_aR, kx_ln, Nat.reduceAdd, Option.toList, List.cons_append, List.nil_append, mW_o, mf_0, mf_39, m_116]
              repeat (simp only [mu_0, mW_so, ms_116, hd, hto, z4, z5, z6, z7, lg_cmp_ge, lg_cmp_le, lg_cmp_gt, lg_cmp_lt, lg_cmp_eq, nI_clamp (show c < 2 ^ 31 by omega), z9]; try dsimp only [kx_wp, kx_step, kx_lI, kx_lL, kx_lA, kx_gl, kx_pI, kx_pL, kx_pR, kx_pA, kx_pV, kx_s1, kx_s2, kx_sl, kx_pre, kx_c2, kx_pl, kx_cmp, kx_oF, kx_eqN, kx_nil, kx_c1, kx_ft, kx_aI, kx_aL, kx_aR, kx_ln, Nat.reduceAdd, Option.toList, List.cons_append, List.nil_append, mW_o, mf_0, mf_39, m_116])
              repeat' apply And.intro
              all_goals try (first | with_reducible assumption | (with_reducible refine ck_nzI ?_; simp; done) | (with_reducible refine ck_nzL ?_; simp; done) | (with_reducible refine vp_in_nI ?_ ?_ <;> first | omega | decide) | (with_reducible refine Nat.le_of_ble_eq_true ?_; rfl) | omega)
              have zi := fun y => ih (k + 1) y (by omega)
              simp only [ck_hh, ck_hd, if_neg hlt] at zi
              simp only [zc74, ze74, ze87, ze99, ↓reduceIte] at zi
              exact zi _
          · intro zc87
            with_reducible first | have ze87 := Decidable.not_not.mp zc87 | have ze87 := zc87
            refine hB bX11_hands_90 _ _ _ _ _ _ _ kX11_hands_90 ?_
            dsimp only [bX11_hands_90, kx_wp, kx_step, kx_lI, kx_lL, kx_lA, kx_gl, kx_pI, kx_pL, kx_pR, kx_pA, kx_pV, kx_s1, kx_s2, kx_sl, kx_pre, kx_c2, kx_pl, kx_cmp, kx_oF, kx_eqN, kx_nil, kx_c1, kx_ft, kx_aI, kx_aL, kx_aR, kx_ln, Nat.reduceAdd, Option.toList, List.cons_append, List.nil_append, mW_o, mf_0, mf_39, m_116]
            repeat (simp only [mu_0, mW_so, ms_116, hd, hto, z4, z5, z6, z7, lg_cmp_ge, lg_cmp_le, lg_cmp_gt, lg_cmp_lt, lg_cmp_eq, nI_clamp (show c < 2 ^ 31 by omega), z9]; try dsimp only [kx_wp, kx_step, kx_lI, kx_lL, kx_lA, kx_gl, kx_pI, kx_pL, kx_pR, kx_pA, kx_pV, kx_s1, kx_s2, kx_sl, kx_pre, kx_c2, kx_pl, kx_cmp, kx_oF, kx_eqN, kx_nil, kx_c1, kx_ft, kx_aI, kx_aL, kx_aR, kx_ln, Nat.reduceAdd, Option.toList, List.cons_append, List.nil_append, mW_o, mf_0, mf_39, m_116])
            repeat' apply And.intro
            all_goals try (first | with_reducible assumption | (with_reducible refine ck_nzI ?_; simp; done) | (with_reducible refine ck_nzL ?_; simp; done) | (with_reducible refine vp_in_nI ?_ ?_ <;> first | omega | decide) | (with_reducible refine Nat.le_of_ble_eq_true ?_; rfl) | omega)
            refine hB bX11_hands_95 _ _ _ _ _ _ _ kX11_hands_95 ?_
            dsimp only [bX11_hands_95, kx_wp, kx_step, kx_lI, kx_lL, kx_lA, kx_gl, kx_pI, kx_pL, kx_pR, kx_pA, kx_pV, kx_s1, kx_s2, kx_sl, kx_pre, kx_c2, kx_pl, kx_cmp, kx_oF, kx_eqN, kx_nil, kx_c1, kx_ft, kx_aI, kx_aL, kx_aR, kx_ln, Nat.reduceAdd, Option.toList, List.cons_append, List.nil_append, mW_o, mf_0, mf_39, m_116]
            repeat (simp only [mu_0, mW_so, ms_116, hd, hto, z4, z5, z6, z7, lg_cmp_ge, lg_cmp_le, lg_cmp_gt, lg_cmp_lt, lg_cmp_eq, nI_clamp (show c < 2 ^ 31 by omega), z9]; try dsimp only [kx_wp, kx_step, kx_lI, kx_lL, kx_lA, kx_gl, kx_pI, kx_pL, kx_pR, kx_pA, kx_pV, kx_s1, kx_s2, kx_sl, kx_pre, kx_c2, kx_pl, kx_cmp, kx_oF, kx_eqN, kx_nil, kx_c1, kx_ft, kx_aI, kx_aL, kx_aR, kx_ln, Nat.reduceAdd, Option.toList, List.cons_append, List.nil_append, mW_o, mf_0, mf_39, m_116])
            repeat' apply And.intro
            all_goals try (first | with_reducible assumption | (with_reducible refine ck_nzI ?_; simp; done) | (with_reducible refine ck_nzL ?_; simp; done) | (with_reducible refine vp_in_nI ?_ ?_ <;> first | omega | decide) | (with_reducible refine Nat.le_of_ble_eq_true ?_; rfl) | omega)
            · intro zc99
              first | exact absurd rfl zc99 | exact absurd zc99 (by decide) | exact absurd (by decide) zc99 | (exfalso; first | exact zc99 hlt | exact hlt zc99 | exact zc74 hout | exact absurd zc74 (Int64.not_lt.mpr (hin k (by omega)))) | (exfalso; simp_all; done)
            · intro zc99
              have ze99 := zc99
              refine hB bX11_hands_102 _ _ _ _ _ _ _ kX11_hands_102 ?_
              dsimp only [bX11_hands_102, kx_wp, kx_step, kx_lI, kx_lL, kx_lA, kx_gl, kx_pI, kx_pL, kx_pR, kx_pA, kx_pV, kx_s1, kx_s2, kx_sl, kx_pre, kx_c2, kx_pl, kx_cmp, kx_oF, kx_eqN, kx_nil, kx_c1, kx_ft, kx_aI, kx_aL, kx_aR, kx_ln, Nat.reduceAdd, Option.toList, List.cons_append, List.nil_append, mW_o, mf_0, mf_39, m_116]
              repeat (simp only [mu_0, mW_so, ms_116, hd, hto, z4, z5, z6, z7, lg_cmp_ge, lg_cmp_le, lg_cmp_gt, lg_cmp_lt, lg_cmp_eq, nI_clamp (show c < 2 ^ 31 by omega), z9]; try dsimp only [kx_wp, kx_step, kx_lI, kx_lL, kx_lA, kx_gl, kx_pI, kx_pL, kx_pR, kx_pA, kx_pV, kx_s1, kx_s2, kx_sl, kx_pre, kx_c2, kx_pl, kx_cmp, kx_oF, kx_eqN, kx_nil, kx_c1, kx_ft, kx_aI, kx_aL, kx_aR, kx_ln, Nat.reduceAdd, Option.toList, List.cons_append, List.nil_append, mW_o, mf_0, mf_39, m_116])
              repeat' apply And.intro
              all_goals try (first | with_reducible assumption | (with_reducible refine ck_nzI ?_; simp; done) | (with_reducible refine ck_nzL ?_; simp; done) | (with_reducible refine vp_in_nI ?_ ?_ <;> first | omega | decide) | (with_reducible refine Nat.le_of_ble_eq_true ?_; rfl) | omega)
              refine hC.1 403 _ _ _ _ _ _ _ 11 _ _ _ _ _ _ _ _ _ _ _ _ lX11_403 (ct_X11_sounds l G (by omega) (ck_hd_wf hw k) ⟨_, Nat.mod_lt _ (by omega), ck_q_n (by omega)⟩) ⟨by decide, rfl⟩ (mW_o) rfl rfl (Nat.le_of_ble_eq_true rfl) (by decide) (by decide) (by omega) (by omega) dX11_hands_106 ?_
              refine hB bX11_hands_109 _ _ _ _ _ _ _ kX11_hands_109 ?_
              dsimp only [bX11_hands_109, kx_wp, kx_step, kx_lI, kx_lL, kx_lA, kx_gl, kx_pI, kx_pL, kx_pR, kx_pA, kx_pV, kx_s1, kx_s2, kx_sl, kx_pre, kx_c2, kx_pl, kx_cmp, kx_oF, kx_eqN, kx_nil, kx_c1, kx_ft, kx_aI, kx_aL, kx_aR, kx_ln, Nat.reduceAdd, Option.toList, List.cons_append, List.nil_append, mW_o, mf_0, mf_39, m_116]
              repeat (simp only [mu_0, mW_so, ms_116, hd, hto, z4, z5, z6, z7, lg_cmp_ge, lg_cmp_le, lg_cmp_gt, lg_cmp_lt, lg_cmp_eq, nI_clamp (show c < 2 ^ 31 by omega), z9]; try dsimp only [kx_wp, kx_step, kx_lI, kx_lL, kx_lA, kx_gl, kx_pI, kx_pL, kx_pR, kx_pA, kx_pV, kx_s1, kx_s2, kx_sl, kx_pre, kx_c2, kx_pl, kx_cmp, kx_oF, kx_eqN, kx_nil, kx_c1, kx_ft, kx_aI, kx_aL, kx_aR, kx_ln, Nat.reduceAdd, Option.toList, List.cons_append, List.nil_append, mW_o, mf_0, mf_39, m_116])
              repeat' apply And.intro
              all_goals try (first | with_reducible assumption | (with_reducible refine ck_nzI ?_; simp; done) | (with_reducible refine ck_nzL ?_; simp; done) | (with_reducible refine vp_in_nI ?_ ?_ <;> first | omega | decide) | (with_reducible refine Nat.le_of_ble_eq_true ?_; rfl) | omega)
              refine hB bX11_hands_111 _ _ _ _ _ _ _ kX11_hands_111 ?_
              dsimp only [bX11_hands_111, kx_wp, kx_step, kx_lI, kx_lL, kx_lA, kx_gl, kx_pI, kx_pL, kx_pR, kx_pA, kx_pV, kx_s1, kx_s2, kx_sl, kx_pre, kx_c2, kx_pl, kx_cmp, kx_oF, kx_eqN, kx_nil, kx_c1, kx_ft, kx_aI, kx_aL, kx_aR, kx_ln, Nat.reduceAdd, Option.toList, List.cons_append, List.nil_append, mW_o, mf_0, mf_39, m_116]
              repeat (simp only [mu_0, mW_so, ms_116, hd, hto, z4, z5, z6, z7, lg_cmp_ge, lg_cmp_le, lg_cmp_gt, lg_cmp_lt, lg_cmp_eq, nI_clamp (show c < 2 ^ 31 by omega), z9]; try dsimp only [kx_wp, kx_step, kx_lI, kx_lL, kx_lA, kx_gl, kx_pI, kx_pL, kx_pR, kx_pA, kx_pV, kx_s1, kx_s2, kx_sl, kx_pre, kx_c2, kx_pl, kx_cmp, kx_oF, kx_eqN, kx_nil, kx_c1, kx_ft, kx_aI, kx_aL, kx_aR, kx_ln, Nat.reduceAdd, Option.toList, List.cons_append, List.nil_append, mW_o, mf_0, mf_39, m_116])
              repeat' apply And.intro
              all_goals try (first | with_reducible assumption | (with_reducible refine ck_nzI ?_; simp; done) | (with_reducible refine ck_nzL ?_; simp; done) | (with_reducible refine vp_in_nI ?_ ?_ <;> first | omega | decide) | (with_reducible refine Nat.le_of_ble_eq_true ?_; rfl) | omega)
              have zi := fun y => ih (k + 1) y (by omega)
              simp only [ck_hh, ck_hd, if_neg hlt] at zi
              simp only [zc74, ze74, eq_true ze87, ze99, ↓reduceIte] at zi
              exact zi _
  refine hB bX11_hands_0 _ _ _ _ _ _ _ kX11_hands_0 ?_
  dsimp only [bX11_hands_0, kx_wp, kx_step, kx_lI, kx_lL, kx_lA, kx_gl, kx_pI, kx_pL, kx_pR, kx_pA, kx_pV, kx_s1, kx_s2, kx_sl, kx_pre, kx_c2, kx_pl, kx_cmp, kx_oF, kx_eqN, kx_nil, kx_c1, kx_ft, kx_aI, kx_aL, kx_aR, kx_ln, Nat.reduceAdd, Option.toList, List.cons_append, List.nil_append, mW_o, mf_0, mf_39, m_116]
  repeat (simp only [mu_0, mW_so, ms_116, hd, hto, z4, z5, z6, z7, lg_cmp_ge, lg_cmp_le, lg_cmp_gt, lg_cmp_lt, lg_cmp_eq, nI_clamp (show c < 2 ^ 31 by omega)]; try dsimp only [kx_wp, kx_step, kx_lI, kx_lL, kx_lA, kx_gl, kx_pI, kx_pL, kx_pR, kx_pA, kx_pV, kx_s1, kx_s2, kx_sl, kx_pre, kx_c2, kx_pl, kx_cmp, kx_oF, kx_eqN, kx_nil, kx_c1, kx_ft, kx_aI, kx_aL, kx_aR, kx_ln, Nat.reduceAdd, Option.toList, List.cons_append, List.nil_append, mW_o, mf_0, mf_39, m_116])
  repeat' apply And.intro
  all_goals try (first | with_reducible assumption | (with_reducible refine ck_nzI ?_; simp; done) | (with_reducible refine ck_nzL ?_; simp; done) | (with_reducible refine vp_in_nI ?_ ?_ <;> first | omega | decide) | (with_reducible refine Nat.le_of_ble_eq_true ?_; rfl) | omega)
  refine hC.1 358 _ _ _ _ _ _ _ 11 _ _ _ _ _ _ _ _ _ _ _ _ lX11_358 (ct_X11_isClock_t l G (M := upd M 0 0) h21 hcl hc rfl) ⟨by decide, rfl⟩ (mW_o) rfl rfl (Nat.le_of_ble_eq_true rfl) (by decide) (by decide) (by omega) (by omega) dX11_hands_7 ?_
  refine hB bX11_hands_10 _ _ _ _ _ _ _ kX11_hands_10 ?_
  dsimp only [bX11_hands_10, kx_wp, kx_step, kx_lI, kx_lL, kx_lA, kx_gl, kx_pI, kx_pL, kx_pR, kx_pA, kx_pV, kx_s1, kx_s2, kx_sl, kx_pre, kx_c2, kx_pl, kx_cmp, kx_oF, kx_eqN, kx_nil, kx_c1, kx_ft, kx_aI, kx_aL, kx_aR, kx_ln, Nat.reduceAdd, Option.toList, List.cons_append, List.nil_append, mW_o, mf_0, mf_39, m_116]
  repeat (simp only [mu_0, mW_so, ms_116, hd, hto, z4, z5, z6, z7, lg_cmp_ge, lg_cmp_le, lg_cmp_gt, lg_cmp_lt, lg_cmp_eq, nI_clamp (show c < 2 ^ 31 by omega)]; try dsimp only [kx_wp, kx_step, kx_lI, kx_lL, kx_lA, kx_gl, kx_pI, kx_pL, kx_pR, kx_pA, kx_pV, kx_s1, kx_s2, kx_sl, kx_pre, kx_c2, kx_pl, kx_cmp, kx_oF, kx_eqN, kx_nil, kx_c1, kx_ft, kx_aI, kx_aL, kx_aR, kx_ln, Nat.reduceAdd, Option.toList, List.cons_append, List.nil_append, mW_o, mf_0, mf_39, m_116])
  repeat' apply And.intro
  all_goals try (first | with_reducible assumption | (with_reducible refine ck_nzI ?_; simp; done) | (with_reducible refine ck_nzL ?_; simp; done) | (with_reducible refine vp_in_nI ?_ ?_ <;> first | omega | decide) | (with_reducible refine Nat.le_of_ble_eq_true ?_; rfl) | omega)
  · intro zc10
    first | exact absurd rfl zc10 | exact absurd zc10 (by decide) | exact absurd (by decide) zc10 | (exfalso; first | exact zc99 hlt | exact hlt zc99 | exact zc74 hout | exact absurd zc74 (Int64.not_lt.mpr (hin k (by omega)))) | (exfalso; simp_all; done)
  · intro zc10
    have ze10 := zc10
    refine hB bX11_hands_13 _ _ _ _ _ _ _ kX11_hands_13 ?_
    dsimp only [bX11_hands_13, kx_wp, kx_step, kx_lI, kx_lL, kx_lA, kx_gl, kx_pI, kx_pL, kx_pR, kx_pA, kx_pV, kx_s1, kx_s2, kx_sl, kx_pre, kx_c2, kx_pl, kx_cmp, kx_oF, kx_eqN, kx_nil, kx_c1, kx_ft, kx_aI, kx_aL, kx_aR, kx_ln, Nat.reduceAdd, Option.toList, List.cons_append, List.nil_append, mW_o, mf_0, mf_39, m_116]
    repeat (simp only [mu_0, mW_so, ms_116, hd, hto, z4, z5, z6, z7, lg_cmp_ge, lg_cmp_le, lg_cmp_gt, lg_cmp_lt, lg_cmp_eq, nI_clamp (show c < 2 ^ 31 by omega)]; try dsimp only [kx_wp, kx_step, kx_lI, kx_lL, kx_lA, kx_gl, kx_pI, kx_pL, kx_pR, kx_pA, kx_pV, kx_s1, kx_s2, kx_sl, kx_pre, kx_c2, kx_pl, kx_cmp, kx_oF, kx_eqN, kx_nil, kx_c1, kx_ft, kx_aI, kx_aL, kx_aR, kx_ln, Nat.reduceAdd, Option.toList, List.cons_append, List.nil_append, mW_o, mf_0, mf_39, m_116])
    repeat' apply And.intro
    all_goals try (first | with_reducible assumption | (with_reducible refine ck_nzI ?_; simp; done) | (with_reducible refine ck_nzL ?_; simp; done) | (with_reducible refine vp_in_nI ?_ ?_ <;> first | omega | decide) | (with_reducible refine Nat.le_of_ble_eq_true ?_; rfl) | omega)
    refine hC.2.1 167 _ _ _ _ _ _ _ _ _ _ _ _ _ _ _ _ _ lX11_167 (ct_X11_within l G) rfl rfl (Nat.le_of_ble_eq_true rfl) (by decide) (by decide) (by omega) (by omega) dX11_hands_21 ?_
    refine hB bX11_hands_24 _ _ _ _ _ _ _ kX11_hands_24 ?_
    dsimp only [bX11_hands_24, kx_wp, kx_step, kx_lI, kx_lL, kx_lA, kx_gl, kx_pI, kx_pL, kx_pR, kx_pA, kx_pV, kx_s1, kx_s2, kx_sl, kx_pre, kx_c2, kx_pl, kx_cmp, kx_oF, kx_eqN, kx_nil, kx_c1, kx_ft, kx_aI, kx_aL, kx_aR, kx_ln, Nat.reduceAdd, Option.toList, List.cons_append, List.nil_append, mW_o, mf_0, mf_39, m_116]
    repeat (simp only [mu_0, mW_so, ms_116, hd, hto, z4, z5, z6, z7, lg_cmp_ge, lg_cmp_le, lg_cmp_gt, lg_cmp_lt, lg_cmp_eq, nI_clamp (show c < 2 ^ 31 by omega)]; try dsimp only [kx_wp, kx_step, kx_lI, kx_lL, kx_lA, kx_gl, kx_pI, kx_pL, kx_pR, kx_pA, kx_pV, kx_s1, kx_s2, kx_sl, kx_pre, kx_c2, kx_pl, kx_cmp, kx_oF, kx_eqN, kx_nil, kx_c1, kx_ft, kx_aI, kx_aL, kx_aR, kx_ln, Nat.reduceAdd, Option.toList, List.cons_append, List.nil_append, mW_o, mf_0, mf_39, m_116])
    repeat' apply And.intro
    all_goals try (first | with_reducible assumption | (with_reducible refine ck_nzI ?_; simp; done) | (with_reducible refine ck_nzL ?_; simp; done) | (with_reducible refine vp_in_nI ?_ ?_ <;> first | omega | decide) | (with_reducible refine Nat.le_of_ble_eq_true ?_; rfl) | omega)
    rw [if_pos hs]
    refine hC.1 171 _ _ _ _ _ _ _ 11 _ _ _ _ _ _ _ _ _ _ _ _ lX11_171 (ct_X11_may_t l G (M := upd M 0 0) rfl) ⟨by decide, rfl⟩ (mW_o) rfl rfl (Nat.le_of_ble_eq_true rfl) (by decide) (by decide) (by omega) (by omega) dX11_hands_25 ?_
    refine hB bX11_hands_28 _ _ _ _ _ _ _ kX11_hands_28 ?_
    dsimp only [bX11_hands_28, kx_wp, kx_step, kx_lI, kx_lL, kx_lA, kx_gl, kx_pI, kx_pL, kx_pR, kx_pA, kx_pV, kx_s1, kx_s2, kx_sl, kx_pre, kx_c2, kx_pl, kx_cmp, kx_oF, kx_eqN, kx_nil, kx_c1, kx_ft, kx_aI, kx_aL, kx_aR, kx_ln, Nat.reduceAdd, Option.toList, List.cons_append, List.nil_append, mW_o, mf_0, mf_39, m_116]
    repeat (simp only [mu_0, mW_so, ms_116, hd, hto, z4, z5, z6, z7, lg_cmp_ge, lg_cmp_le, lg_cmp_gt, lg_cmp_lt, lg_cmp_eq, nI_clamp (show c < 2 ^ 31 by omega)]; try dsimp only [kx_wp, kx_step, kx_lI, kx_lL, kx_lA, kx_gl, kx_pI, kx_pL, kx_pR, kx_pA, kx_pV, kx_s1, kx_s2, kx_sl, kx_pre, kx_c2, kx_pl, kx_cmp, kx_oF, kx_eqN, kx_nil, kx_c1, kx_ft, kx_aI, kx_aL, kx_aR, kx_ln, Nat.reduceAdd, Option.toList, List.cons_append, List.nil_append, mW_o, mf_0, mf_39, m_116])
    repeat' apply And.intro
    all_goals try (first | with_reducible assumption | (with_reducible refine ck_nzI ?_; simp; done) | (with_reducible refine ck_nzL ?_; simp; done) | (with_reducible refine vp_in_nI ?_ ?_ <;> first | omega | decide) | (with_reducible refine Nat.le_of_ble_eq_true ?_; rfl) | omega)
    · intro zc28
      have ze28 := zc28
      refine hB bX11_hands_33 _ _ _ _ _ _ _ kX11_hands_33 ?_
      dsimp only [bX11_hands_33, kx_wp, kx_step, kx_lI, kx_lL, kx_lA, kx_gl, kx_pI, kx_pL, kx_pR, kx_pA, kx_pV, kx_s1, kx_s2, kx_sl, kx_pre, kx_c2, kx_pl, kx_cmp, kx_oF, kx_eqN, kx_nil, kx_c1, kx_ft, kx_aI, kx_aL, kx_aR, kx_ln, Nat.reduceAdd, Option.toList, List.cons_append, List.nil_append, mW_o, mf_0, mf_39, m_116]
      repeat (simp only [mu_0, mW_so, ms_116, hd, hto, z4, z5, z6, z7, lg_cmp_ge, lg_cmp_le, lg_cmp_gt, lg_cmp_lt, lg_cmp_eq, nI_clamp (show c < 2 ^ 31 by omega)]; try dsimp only [kx_wp, kx_step, kx_lI, kx_lL, kx_lA, kx_gl, kx_pI, kx_pL, kx_pR, kx_pA, kx_pV, kx_s1, kx_s2, kx_sl, kx_pre, kx_c2, kx_pl, kx_cmp, kx_oF, kx_eqN, kx_nil, kx_c1, kx_ft, kx_aI, kx_aL, kx_aR, kx_ln, Nat.reduceAdd, Option.toList, List.cons_append, List.nil_append, mW_o, mf_0, mf_39, m_116])
      repeat' apply And.intro
      all_goals try (first | with_reducible assumption | (with_reducible refine ck_nzI ?_; simp; done) | (with_reducible refine ck_nzL ?_; simp; done) | (with_reducible refine vp_in_nI ?_ ?_ <;> first | omega | decide) | (with_reducible refine Nat.le_of_ble_eq_true ?_; rfl) | omega)
      exact loop69 nh 0 none (by omega)
    · intro zc28
      first | exact absurd rfl zc28 | exact absurd zc28 (by decide) | exact absurd (by decide) zc28 | (exfalso; first | exact zc99 hlt | exact hlt zc99 | exact zc74 hout | exact absurd zc74 (Int64.not_lt.mpr (hin k (by omega)))) | (exfalso; simp_all; done)


def cx_bp (v0 : Int64) (pen cur : Int32) : Nat → Int32 × Int64
  | 0 => (-20, 1152921504606846976)
  | k + 1 => if ck_abL (v0 + pen.toInt64 * (nI k - 20 - cur).toInt64) < (cx_bp v0 pen cur k).2 then (nI k - 20, ck_abL (v0 + pen.toInt64 * (nI k - 20 - cur).toInt64)) else cx_bp v0 pen cur k
theorem cx_bp_s (v0 : Int64) (pen cur : Int32) (k : Nat) : cx_bp v0 pen cur (k + 1) = if ck_abL (v0 + pen.toInt64 * (nI k - 20 - cur).toInt64) < (cx_bp v0 pen cur k).2 then (nI k - 20, ck_abL (v0 + pen.toInt64 * (nI k - 20 - cur).toInt64)) else cx_bp v0 pen cur k := rfl
theorem cx_pk1 : ∀ k, k ≤ 40 → ¬ (20 : Int32) < nI k - 20 := by decide +kernel
theorem cx_pk2 : ∀ k, k ≤ 40 → nI k - 20 + 1 = nI (k + 1) - 20 := by decide +kernel
def bX10_trip_0 : List kx_O := [(.aload_n 0, 0, 0, 0, .null), (.iload_n 1, 1, 0, 0, .null)]
theorem kX10_trip_0 : kx_oks kxL_X10 false cX10_trip 0 bX10_trip_0 = true := by decide +kernel
def bX10_trip_5 : List kx_O := [(.astore_n 3, 3, 0, 0, .null), (.aload_n 3, 3, 0, 0, .null), (.getfield 180, 1, 2, 0, .null), (.getfield 214, 9, 12, 0, .null), (.ifCond .ne 5, 18, 0, 0, .null)]
theorem kX10_trip_5 : kx_oks kxL_X10 false cX10_trip 5 bX10_trip_5 = true := by decide +kernel
def bX10_trip_16 : List kx_O := [(.iconst (-1), 0, 0, 0, .int (-1)), (.ireturn, 0, 0, 0, .null)]
theorem kX10_trip_16 : kx_oks kxL_X10 false cX10_trip 16 bX10_trip_16 = true := by decide +kernel
def bX10_trip_18 : List kx_O := [(.iload_n 2, 2, 0, 0, .null), (.ifCond .eq 24, 43, 0, 0, .null)]
theorem kX10_trip_18 : kx_oks kxL_X10 false cX10_trip 18 bX10_trip_18 = true := by decide +kernel
def bX10_trip_22 : List kx_O := [(.aload_n 3, 3, 0, 0, .null), (.getfield 180, 1, 2, 0, .null), (.aload_n 3, 3, 0, 0, .null), (.getfield 217, 1, 8, 0, .null)]
theorem kX10_trip_22 : kx_oks kxL_X10 false cX10_trip 22 bX10_trip_22 = true := by decide +kernel
def bX10_trip_33 : List kx_O := [(.aload_n 3, 3, 0, 0, .null), (.getfield 156, 1, 7, 0, .null), (.if_icmp .le 6, 43, 0, 0, .null)]
theorem kX10_trip_33 : kx_oks kxL_X10 false cX10_trip 33 bX10_trip_33 = true := by decide +kernel
def bX10_trip_40 : List kx_O := [(.bipush (-2), 0, 0, 0, .int (-2)), (.ireturn, 0, 0, 0, .null)]
theorem kX10_trip_40 : kx_oks kxL_X10 false cX10_trip 40 bX10_trip_40 = true := by decide +kernel
def bX10_trip_43 : List kx_O := [(.iload_n 2, 2, 0, 0, .null), (.ifCond .eq 23, 67, 0, 0, .null)]
theorem kX10_trip_43 : kx_oks kxL_X10 false cX10_trip 43 bX10_trip_43 = true := by decide +kernel
def bX10_trip_47 : List kx_O := [(.aload_n 3, 3, 0, 0, .null), (.dup, 0, 0, 0, .null), (.getfield 156, 1, 7, 0, .null), (.aload_n 3, 3, 0, 0, .null), (.getfield 180, 1, 2, 0, .null), (.aload_n 3, 3, 0, 0, .null), (.getfield 217, 1, 8, 0, .null)]
theorem kX10_trip_47 : kx_oks kxL_X10 false cX10_trip 47 bX10_trip_47 = true := by decide +kernel
def bX10_trip_63 : List kx_O := [(.isub, 0, 0, 0, .null), (.putfield 156, 1, 7, 0, .null)]
theorem kX10_trip_63 : kx_oks kxL_X10 false cX10_trip 63 bX10_trip_63 = true := by decide +kernel
def bX10_trip_67 : List kx_O := [(.aload_n 3, 3, 0, 0, .null), (.aload_n 3, 3, 0, 0, .null), (.getfield 180, 1, 2, 0, .null), (.aload_n 3, 3, 0, 0, .null), (.getfield 217, 1, 8, 0, .null), (.iload_n 2, 2, 0, 0, .null), (.ifCond .eq 7, 84, 0, 0, .null)]
theorem kX10_trip_67 : kx_oks kxL_X10 false cX10_trip 67 bX10_trip_67 = true := by decide +kernel
def bX10_trip_80 : List kx_O := [(.iconst 1, 0, 0, 0, .int 1), (.goto 4, 85, 0, 0, .null)]
theorem kX10_trip_80 : kx_oks kxL_X10 false cX10_trip 80 bX10_trip_80 = true := by decide +kernel
def bX10_trip_84 : List kx_O := [(.iconst (-1), 0, 0, 0, .int (-1))]
theorem kX10_trip_84 : kx_oks kxL_X10 false cX10_trip 84 bX10_trip_84 = true := by decide +kernel
def bX10_trip_88 : List kx_O := [(.putfield 217, 1, 8, 0, .null), (.aload_n 3, 3, 0, 0, .null), (.getfield 217, 1, 8, 0, .null), (.ireturn, 0, 0, 0, .null)]
theorem kX10_trip_88 : kx_oks kxL_X10 false cX10_trip 88 bX10_trip_88 = true := by decide +kernel
theorem dX10_trip_2 : decode cX10_trip 2 = .ok (.invokevirtual 138, 3) := by decide +kernel
theorem dX10_trip_30 : decode cX10_trip 30 = .ok (.invokevirtual 220, 3) := by decide +kernel
theorem dX10_trip_60 : decode cX10_trip 60 = .ok (.invokevirtual 220, 3) := by decide +kernel
theorem dX10_trip_85 : decode cX10_trip 85 = .ok (.invokevirtual 223, 3) := by decide +kernel
set_option maxRecDepth 100000 in
set_option maxHeartbeats 4000000 in
theorem ct_X10_trip_n (l : Launch) (G : kx_G) {P : kx_P} {sz : Nat} {sv : Value} {K : Nat → Int32} (h64 : P 64 = kO 10 (kf (cr10 sv) K)) {cl : Nat} {cn : Nat → Nat} (h69 : P 69 = kR 8 (fun i => if i < cl then some (cn i) else none)) (h7 : K 7 = nI cl) (hcl : cl ≤ 8) {c : Nat} (hc : c < cl) {w : Nat} {V T Q Fo St Al Wm S C : Nat → Int32} {d : Int64} {h : Value} (H : cx_R P (cn c) w V T Q Fo St Al Wm) (hs : P (w + 5) = kI 0 64 S) (hq : P (cn c) = kO 1 (kf (cr1 (.ref w) d h) C)) {b : Int32} (h12 : V 12 = 0)  : kx_M l G sX10_trip 6 0 0 [.ref 64, .int (nI c), .int (b)] P sz (some (.int (-1))) P sz := by
  have h64c : 64 ≤ cn c := H.2.1
  have hne : ¬ cn c = w := by have := H.2.2.1; omega
  have h9 : P w = kO 9 (kf (cr9 w) V) := H.2.2.2.2.2.1
  have h9c : ∀ y, kx_set P (cn c) y w = kO 9 (kf (cr9 w) V) := fun y => (ks_ne (fun z => hne z.symm)).trans h9
  have hA : P 65 = kO 0 (kf cr0 Al) := H.2.2.2.2.2.2.2.2.2.2.1
  have hT : P (w + 1) = kI 0 24 T := H.2.2.2.2.2.2.1
  refine kx_mk kx_tab kxLok_X10 (ini := false) [some (.ref 64), some (.int (nI c)), some (.int (b)), none] ⟨by decide, rfl, by decide, by decide⟩ (⟨_, rfl⟩) rfl rfl (fun g hB hC => ?_)
  refine hB bX10_trip_0 _ _ _ _ _ _ _ kX10_trip_0 ?_
  dsimp only [bX10_trip_0, kx_wp, kx_step, kx_lI, kx_lL, kx_lA, kx_gl, kx_pI, kx_pL, kx_pR, kx_pA, kx_pV, kx_s1, kx_s2, kx_sl, kx_pre, kx_c2, kx_pl, kx_cmp, kx_oF, kx_eqN, kx_nil, kx_c1, kx_ft, kx_aI, kx_aL, kx_aR, kx_ln, Nat.reduceAdd, Option.toList, List.cons_append, List.nil_append, cf1_2, cf9_12, cf1_8, cf1_7]
  repeat (simp only [h64, hq, h9, h12, cp1_7, cp1_8, ks_eq, ks_ss]; try dsimp only [kx_wp, kx_step, kx_lI, kx_lL, kx_lA, kx_gl, kx_pI, kx_pL, kx_pR, kx_pA, kx_pV, kx_s1, kx_s2, kx_sl, kx_pre, kx_c2, kx_pl, kx_cmp, kx_oF, kx_eqN, kx_nil, kx_c1, kx_ft, kx_aI, kx_aL, kx_aR, kx_ln, Nat.reduceAdd, Option.toList, List.cons_append, List.nil_append, cf1_2, cf9_12, cf1_8, cf1_7])
  repeat' apply And.intro
  all_goals try (first | with_reducible assumption | (with_reducible refine ck_nzI ?_; simp; done) | (with_reducible refine ck_nzL ?_; simp; done) | (with_reducible refine vp_in_nI ?_ ?_ <;> first | omega | decide) | (with_reducible refine Nat.le_of_ble_eq_true ?_; rfl) | omega | exact Or.inl trivial | exact Or.inr trivial | exact Or.inl rfl | exact Or.inr rfl)
  refine hC.1 138 _ _ _ _ _ _ _ 10 _ _ _ _ _ _ _ _ _ _ _ _ lX10_138 (ct_X10_theClock l G h64 h69 h7 hcl hc) ⟨by decide, rfl⟩ (h64) rfl rfl (Nat.le_of_ble_eq_true rfl) (by first | decide | omega) (by decide) (by omega) (by omega) dX10_trip_2 ?_
  refine hB bX10_trip_5 _ _ _ _ _ _ _ kX10_trip_5 ?_
  dsimp only [bX10_trip_5, kx_wp, kx_step, kx_lI, kx_lL, kx_lA, kx_gl, kx_pI, kx_pL, kx_pR, kx_pA, kx_pV, kx_s1, kx_s2, kx_sl, kx_pre, kx_c2, kx_pl, kx_cmp, kx_oF, kx_eqN, kx_nil, kx_c1, kx_ft, kx_aI, kx_aL, kx_aR, kx_ln, Nat.reduceAdd, Option.toList, List.cons_append, List.nil_append, cf1_2, cf9_12, cf1_8, cf1_7]
  repeat (simp only [h64, hq, h9, h12, cp1_7, cp1_8, ks_eq, ks_ss]; try dsimp only [kx_wp, kx_step, kx_lI, kx_lL, kx_lA, kx_gl, kx_pI, kx_pL, kx_pR, kx_pA, kx_pV, kx_s1, kx_s2, kx_sl, kx_pre, kx_c2, kx_pl, kx_cmp, kx_oF, kx_eqN, kx_nil, kx_c1, kx_ft, kx_aI, kx_aL, kx_aR, kx_ln, Nat.reduceAdd, Option.toList, List.cons_append, List.nil_append, cf1_2, cf9_12, cf1_8, cf1_7])
  repeat' apply And.intro
  all_goals try (first | with_reducible assumption | (with_reducible refine ck_nzI ?_; simp; done) | (with_reducible refine ck_nzL ?_; simp; done) | (with_reducible refine vp_in_nI ?_ ?_ <;> first | omega | decide) | (with_reducible refine Nat.le_of_ble_eq_true ?_; rfl) | omega | exact Or.inl trivial | exact Or.inr trivial | exact Or.inl rfl | exact Or.inr rfl)
  · intro zc13
    first | exact absurd rfl zc13 | exact absurd zc13 (by decide) | exact absurd (by decide) zc13 | (exfalso; exact zc13 rfl) | (exfalso; simp_all; done)
  · intro zc13
    with_reducible first | have ze13 := Decidable.not_not.mp zc13 | have ze13 := zc13
    refine hB bX10_trip_16 _ _ _ _ _ _ _ kX10_trip_16 ?_
    dsimp only [bX10_trip_16, kx_wp, kx_step, kx_lI, kx_lL, kx_lA, kx_gl, kx_pI, kx_pL, kx_pR, kx_pA, kx_pV, kx_s1, kx_s2, kx_sl, kx_pre, kx_c2, kx_pl, kx_cmp, kx_oF, kx_eqN, kx_nil, kx_c1, kx_ft, kx_aI, kx_aL, kx_aR, kx_ln, Nat.reduceAdd, Option.toList, List.cons_append, List.nil_append, cf1_2, cf9_12, cf1_8, cf1_7]
    repeat (simp only [h64, hq, h9, h12, cp1_7, cp1_8, ks_eq, ks_ss]; try dsimp only [kx_wp, kx_step, kx_lI, kx_lL, kx_lA, kx_gl, kx_pI, kx_pL, kx_pR, kx_pA, kx_pV, kx_s1, kx_s2, kx_sl, kx_pre, kx_c2, kx_pl, kx_cmp, kx_oF, kx_eqN, kx_nil, kx_c1, kx_ft, kx_aI, kx_aL, kx_aR, kx_ln, Nat.reduceAdd, Option.toList, List.cons_append, List.nil_append, cf1_2, cf9_12, cf1_8, cf1_7])
    all_goals (repeat' apply And.intro)
    all_goals ((try clear hB hC); first | exact True.intro | with_reducible rfl | with_reducible assumption | (with_reducible refine vp_in_nI ?_ ?_ <;> first | omega | decide) | exact Nat.le_of_ble_eq_true rfl | (with_reducible refine ck_nzI ?_; simp; done) | (with_reducible refine ck_nzL ?_; simp; done) | (simp only [pk_us, pk_uLs, eq_true ze13, ↓reduceIte, not_true_eq_false, not_false_eq_true]; done) | (simp only [eq_true ze13, ↓reduceIte, not_true_eq_false, not_false_eq_true]; with_reducible rfl) | omega | skip)

set_option maxRecDepth 100000 in
set_option maxHeartbeats 4000000 in
theorem ct_X10_trip_r (l : Launch) (G : kx_G) {P : kx_P} {sz : Nat} {sv : Value} {K : Nat → Int32} (h64 : P 64 = kO 10 (kf (cr10 sv) K)) {cl : Nat} {cn : Nat → Nat} (h69 : P 69 = kR 8 (fun i => if i < cl then some (cn i) else none)) (h7 : K 7 = nI cl) (hcl : cl ≤ 8) {c : Nat} (hc : c < cl) {w : Nat} {V T Q Fo St Al Wm S C : Nat → Int32} {d : Int64} {h : Value} (H : cx_R P (cn c) w V T Q Fo St Al Wm) (hs : P (w + 5) = kI 0 64 S) (hq : P (cn c) = kO 1 (kf (cr1 (.ref w) d h) C)) (h12 : ¬ V 12 = 0) (hrg : ¬ cx_to V T (C 8) ≤ C 7)  : kx_M l G sX10_trip 6 0 0 [.ref 64, .int (nI c), .int (1)] P sz (some (.int (-2))) P sz := by
  have h64c : 64 ≤ cn c := H.2.1
  have hne : ¬ cn c = w := by have := H.2.2.1; omega
  have h9 : P w = kO 9 (kf (cr9 w) V) := H.2.2.2.2.2.1
  have h9c : ∀ y, kx_set P (cn c) y w = kO 9 (kf (cr9 w) V) := fun y => (ks_ne (fun z => hne z.symm)).trans h9
  have hA : P 65 = kO 0 (kf cr0 Al) := H.2.2.2.2.2.2.2.2.2.2.1
  have hT : P (w + 1) = kI 0 24 T := H.2.2.2.2.2.2.1
  refine kx_mk kx_tab kxLok_X10 (ini := false) [some (.ref 64), some (.int (nI c)), some (.int (1)), none] ⟨by decide, rfl, by decide, by decide⟩ (⟨_, rfl⟩) rfl rfl (fun g hB hC => ?_)
  refine hB bX10_trip_0 _ _ _ _ _ _ _ kX10_trip_0 ?_
  dsimp only [bX10_trip_0, kx_wp, kx_step, kx_lI, kx_lL, kx_lA, kx_gl, kx_pI, kx_pL, kx_pR, kx_pA, kx_pV, kx_s1, kx_s2, kx_sl, kx_pre, kx_c2, kx_pl, kx_cmp, kx_oF, kx_eqN, kx_nil, kx_c1, kx_ft, kx_aI, kx_aL, kx_aR, kx_ln, Nat.reduceAdd, Option.toList, List.cons_append, List.nil_append, cf1_2, cf9_12, cf1_8, cf1_7]
  repeat (simp only [h64, hq, h9, cp1_7, cp1_8, ks_eq, ks_ss]; try dsimp only [kx_wp, kx_step, kx_lI, kx_lL, kx_lA, kx_gl, kx_pI, kx_pL, kx_pR, kx_pA, kx_pV, kx_s1, kx_s2, kx_sl, kx_pre, kx_c2, kx_pl, kx_cmp, kx_oF, kx_eqN, kx_nil, kx_c1, kx_ft, kx_aI, kx_aL, kx_aR, kx_ln, Nat.reduceAdd, Option.toList, List.cons_append, List.nil_append, cf1_2, cf9_12, cf1_8, cf1_7])
  repeat' apply And.intro
  all_goals try (first | with_reducible assumption | (with_reducible refine ck_nzI ?_; simp; done) | (with_reducible refine ck_nzL ?_; simp; done) | (with_reducible refine vp_in_nI ?_ ?_ <;> first | omega | decide) | (with_reducible refine Nat.le_of_ble_eq_true ?_; rfl) | omega | exact Or.inl trivial | exact Or.inr trivial | exact Or.inl rfl | exact Or.inr rfl)
  refine hC.1 138 _ _ _ _ _ _ _ 10 _ _ _ _ _ _ _ _ _ _ _ _ lX10_138 (ct_X10_theClock l G h64 h69 h7 hcl hc) ⟨by decide, rfl⟩ (h64) rfl rfl (Nat.le_of_ble_eq_true rfl) (by first | decide | omega) (by decide) (by omega) (by omega) dX10_trip_2 ?_
  refine hB bX10_trip_5 _ _ _ _ _ _ _ kX10_trip_5 ?_
  dsimp only [bX10_trip_5, kx_wp, kx_step, kx_lI, kx_lL, kx_lA, kx_gl, kx_pI, kx_pL, kx_pR, kx_pA, kx_pV, kx_s1, kx_s2, kx_sl, kx_pre, kx_c2, kx_pl, kx_cmp, kx_oF, kx_eqN, kx_nil, kx_c1, kx_ft, kx_aI, kx_aL, kx_aR, kx_ln, Nat.reduceAdd, Option.toList, List.cons_append, List.nil_append, cf1_2, cf9_12, cf1_8, cf1_7]
  repeat (simp only [h64, hq, h9, cp1_7, cp1_8, ks_eq, ks_ss]; try dsimp only [kx_wp, kx_step, kx_lI, kx_lL, kx_lA, kx_gl, kx_pI, kx_pL, kx_pR, kx_pA, kx_pV, kx_s1, kx_s2, kx_sl, kx_pre, kx_c2, kx_pl, kx_cmp, kx_oF, kx_eqN, kx_nil, kx_c1, kx_ft, kx_aI, kx_aL, kx_aR, kx_ln, Nat.reduceAdd, Option.toList, List.cons_append, List.nil_append, cf1_2, cf9_12, cf1_8, cf1_7])
  repeat' apply And.intro
  all_goals try (first | with_reducible assumption | (with_reducible refine ck_nzI ?_; simp; done) | (with_reducible refine ck_nzL ?_; simp; done) | (with_reducible refine vp_in_nI ?_ ?_ <;> first | omega | decide) | (with_reducible refine Nat.le_of_ble_eq_true ?_; rfl) | omega | exact Or.inl trivial | exact Or.inr trivial | exact Or.inl rfl | exact Or.inr rfl)
  · intro zc13
    have ze13 := zc13
    refine hB bX10_trip_18 _ _ _ _ _ _ _ kX10_trip_18 ?_
    dsimp only [bX10_trip_18, kx_wp, kx_step, kx_lI, kx_lL, kx_lA, kx_gl, kx_pI, kx_pL, kx_pR, kx_pA, kx_pV, kx_s1, kx_s2, kx_sl, kx_pre, kx_c2, kx_pl, kx_cmp, kx_oF, kx_eqN, kx_nil, kx_c1, kx_ft, kx_aI, kx_aL, kx_aR, kx_ln, Nat.reduceAdd, Option.toList, List.cons_append, List.nil_append, cf1_2, cf9_12, cf1_8, cf1_7]
    repeat (simp only [h64, hq, h9, cp1_7, cp1_8, ks_eq, ks_ss]; try dsimp only [kx_wp, kx_step, kx_lI, kx_lL, kx_lA, kx_gl, kx_pI, kx_pL, kx_pR, kx_pA, kx_pV, kx_s1, kx_s2, kx_sl, kx_pre, kx_c2, kx_pl, kx_cmp, kx_oF, kx_eqN, kx_nil, kx_c1, kx_ft, kx_aI, kx_aL, kx_aR, kx_ln, Nat.reduceAdd, Option.toList, List.cons_append, List.nil_append, cf1_2, cf9_12, cf1_8, cf1_7])
    repeat' apply And.intro
    all_goals try (first | with_reducible assumption | (with_reducible refine ck_nzI ?_; simp; done) | (with_reducible refine ck_nzL ?_; simp; done) | (with_reducible refine vp_in_nI ?_ ?_ <;> first | omega | decide) | (with_reducible refine Nat.le_of_ble_eq_true ?_; rfl) | omega | exact Or.inl trivial | exact Or.inr trivial | exact Or.inl rfl | exact Or.inr rfl)
    · intro zc19
      first | exact absurd rfl zc19 | exact absurd zc19 (by decide) | exact absurd (by decide) zc19 | (exfalso; first | exact h12 (Decidable.not_not.mp zc13) | exact absurd zc19 (by decide) | exact absurd zc44 (by decide) | exact absurd zc77 (by decide) | exact zc19 rfl | exact zc44 rfl | exact zc77 rfl | exact hrg zc37 | exact zc37 hrg) | (exfalso; simp_all; done)
    · intro zc19
      have ze19 := zc19
      refine hB bX10_trip_22 _ _ _ _ _ _ _ kX10_trip_22 ?_
      dsimp only [bX10_trip_22, kx_wp, kx_step, kx_lI, kx_lL, kx_lA, kx_gl, kx_pI, kx_pL, kx_pR, kx_pA, kx_pV, kx_s1, kx_s2, kx_sl, kx_pre, kx_c2, kx_pl, kx_cmp, kx_oF, kx_eqN, kx_nil, kx_c1, kx_ft, kx_aI, kx_aL, kx_aR, kx_ln, Nat.reduceAdd, Option.toList, List.cons_append, List.nil_append, cf1_2, cf9_12, cf1_8, cf1_7]
      repeat (simp only [h64, hq, h9, cp1_7, cp1_8, ks_eq, ks_ss]; try dsimp only [kx_wp, kx_step, kx_lI, kx_lL, kx_lA, kx_gl, kx_pI, kx_pL, kx_pR, kx_pA, kx_pV, kx_s1, kx_s2, kx_sl, kx_pre, kx_c2, kx_pl, kx_cmp, kx_oF, kx_eqN, kx_nil, kx_c1, kx_ft, kx_aI, kx_aL, kx_aR, kx_ln, Nat.reduceAdd, Option.toList, List.cons_append, List.nil_append, cf1_2, cf9_12, cf1_8, cf1_7])
      repeat' apply And.intro
      all_goals try (first | with_reducible assumption | (with_reducible refine ck_nzI ?_; simp; done) | (with_reducible refine ck_nzL ?_; simp; done) | (with_reducible refine vp_in_nI ?_ ?_ <;> first | omega | decide) | (with_reducible refine Nat.le_of_ble_eq_true ?_; rfl) | omega | exact Or.inl trivial | exact Or.inr trivial | exact Or.inl rfl | exact Or.inr rfl)
      refine hC.1 220 _ _ _ _ _ _ _ 9 _ _ _ _ _ _ _ _ _ _ _ _ lX10_220 (ct_X9_toothAt l G (V := V) (T := T) h9 hT) ⟨by decide, rfl⟩ (h9) rfl rfl (Nat.le_of_ble_eq_true rfl) (by first | decide | omega) (by decide) (by omega) (by omega) dX10_trip_30 ?_
      refine hB bX10_trip_33 _ _ _ _ _ _ _ kX10_trip_33 ?_
      dsimp only [bX10_trip_33, kx_wp, kx_step, kx_lI, kx_lL, kx_lA, kx_gl, kx_pI, kx_pL, kx_pR, kx_pA, kx_pV, kx_s1, kx_s2, kx_sl, kx_pre, kx_c2, kx_pl, kx_cmp, kx_oF, kx_eqN, kx_nil, kx_c1, kx_ft, kx_aI, kx_aL, kx_aR, kx_ln, Nat.reduceAdd, Option.toList, List.cons_append, List.nil_append, cf1_2, cf9_12, cf1_8, cf1_7]
      repeat (simp only [h64, hq, h9, cp1_7, cp1_8, ks_eq, ks_ss]; try dsimp only [kx_wp, kx_step, kx_lI, kx_lL, kx_lA, kx_gl, kx_pI, kx_pL, kx_pR, kx_pA, kx_pV, kx_s1, kx_s2, kx_sl, kx_pre, kx_c2, kx_pl, kx_cmp, kx_oF, kx_eqN, kx_nil, kx_c1, kx_ft, kx_aI, kx_aL, kx_aR, kx_ln, Nat.reduceAdd, Option.toList, List.cons_append, List.nil_append, cf1_2, cf9_12, cf1_8, cf1_7])
      repeat' apply And.intro
      all_goals try (first | with_reducible assumption | (with_reducible refine ck_nzI ?_; simp; done) | (with_reducible refine ck_nzL ?_; simp; done) | (with_reducible refine vp_in_nI ?_ ?_ <;> first | omega | decide) | (with_reducible refine Nat.le_of_ble_eq_true ?_; rfl) | omega | exact Or.inl trivial | exact Or.inr trivial | exact Or.inl rfl | exact Or.inr rfl)
      · intro zc37
        first | exact absurd rfl zc37 | exact absurd zc37 (by decide) | exact absurd (by decide) zc37 | (exfalso; first | exact h12 (Decidable.not_not.mp zc13) | exact absurd zc19 (by decide) | exact absurd zc44 (by decide) | exact absurd zc77 (by decide) | exact zc19 rfl | exact zc44 rfl | exact zc77 rfl | exact hrg zc37 | exact zc37 hrg) | (exfalso; simp_all; done)
      · intro zc37
        with_reducible first | have ze37 := Int32.not_le.mp zc37 | have ze37 := zc37
        refine hB bX10_trip_40 _ _ _ _ _ _ _ kX10_trip_40 ?_
        dsimp only [bX10_trip_40, kx_wp, kx_step, kx_lI, kx_lL, kx_lA, kx_gl, kx_pI, kx_pL, kx_pR, kx_pA, kx_pV, kx_s1, kx_s2, kx_sl, kx_pre, kx_c2, kx_pl, kx_cmp, kx_oF, kx_eqN, kx_nil, kx_c1, kx_ft, kx_aI, kx_aL, kx_aR, kx_ln, Nat.reduceAdd, Option.toList, List.cons_append, List.nil_append, cf1_2, cf9_12, cf1_8, cf1_7]
        repeat (simp only [h64, hq, h9, cp1_7, cp1_8, ks_eq, ks_ss]; try dsimp only [kx_wp, kx_step, kx_lI, kx_lL, kx_lA, kx_gl, kx_pI, kx_pL, kx_pR, kx_pA, kx_pV, kx_s1, kx_s2, kx_sl, kx_pre, kx_c2, kx_pl, kx_cmp, kx_oF, kx_eqN, kx_nil, kx_c1, kx_ft, kx_aI, kx_aL, kx_aR, kx_ln, Nat.reduceAdd, Option.toList, List.cons_append, List.nil_append, cf1_2, cf9_12, cf1_8, cf1_7])
        all_goals (repeat' apply And.intro)
        all_goals ((try clear hB hC); first | exact True.intro | with_reducible rfl | with_reducible assumption | (with_reducible refine vp_in_nI ?_ ?_ <;> first | omega | decide) | exact Nat.le_of_ble_eq_true rfl | (with_reducible refine ck_nzI ?_; simp; done) | (with_reducible refine ck_nzL ?_; simp; done) | (simp only [pk_us, pk_uLs, ze13, ze19, zc37, ze37, ↓reduceIte, not_true_eq_false, not_false_eq_true]; done) | (simp only [ze13, ze19, zc37, ze37, ↓reduceIte, not_true_eq_false, not_false_eq_true]; with_reducible rfl) | omega | skip)
  · intro zc13
    first | exact absurd rfl zc13 | exact absurd zc13 (by decide) | exact absurd (by decide) zc13 | (exfalso; first | exact h12 (Decidable.not_not.mp zc13) | exact absurd zc19 (by decide) | exact absurd zc44 (by decide) | exact absurd zc77 (by decide) | exact zc19 rfl | exact zc44 rfl | exact zc77 rfl | exact hrg zc37 | exact zc37 hrg) | (exfalso; simp_all; done)

set_option maxRecDepth 100000 in
set_option maxHeartbeats 4000000 in
theorem ct_X10_trip_t (l : Launch) (G : kx_G) {P : kx_P} {sz : Nat} {sv : Value} {K : Nat → Int32} (h64 : P 64 = kO 10 (kf (cr10 sv) K)) {cl : Nat} {cn : Nat → Nat} (h69 : P 69 = kR 8 (fun i => if i < cl then some (cn i) else none)) (h7 : K 7 = nI cl) (hcl : cl ≤ 8) {c : Nat} (hc : c < cl) {w : Nat} {V T Q Fo St Al Wm S C : Nat → Int32} {d : Int64} {h : Value} (H : cx_R P (cn c) w V T Q Fo St Al Wm) (hs : P (w + 5) = kI 0 64 S) (hq : P (cn c) = kO 1 (kf (cr1 (.ref w) d h) C)) (h12 : ¬ V 12 = 0) (hrg : cx_to V T (C 8) ≤ C 7)  : kx_M l G sX10_trip 6 0 0 [.ref 64, .int (nI c), .int (1)] P sz (some (.int (cx_pa V (C 8) 1))) (kx_set P (cn c) (kO 1 (kf (cr1 (.ref w) d h) (upd (upd C 7 (C 7 - cx_to V T (C 8))) 8 (cx_pa V (C 8) 1))))) sz := by
  have h64c : 64 ≤ cn c := H.2.1
  have hne : ¬ cn c = w := by have := H.2.2.1; omega
  have h9 : P w = kO 9 (kf (cr9 w) V) := H.2.2.2.2.2.1
  have h9c : ∀ y, kx_set P (cn c) y w = kO 9 (kf (cr9 w) V) := fun y => (ks_ne (fun z => hne z.symm)).trans h9
  have hA : P 65 = kO 0 (kf cr0 Al) := H.2.2.2.2.2.2.2.2.2.2.1
  have hT : P (w + 1) = kI 0 24 T := H.2.2.2.2.2.2.1
  refine kx_mk kx_tab kxLok_X10 (ini := false) [some (.ref 64), some (.int (nI c)), some (.int (1)), none] ⟨by decide, rfl, by decide, by decide⟩ (⟨_, rfl⟩) rfl rfl (fun g hB hC => ?_)
  refine hB bX10_trip_0 _ _ _ _ _ _ _ kX10_trip_0 ?_
  dsimp only [bX10_trip_0, kx_wp, kx_step, kx_lI, kx_lL, kx_lA, kx_gl, kx_pI, kx_pL, kx_pR, kx_pA, kx_pV, kx_s1, kx_s2, kx_sl, kx_pre, kx_c2, kx_pl, kx_cmp, kx_oF, kx_eqN, kx_nil, kx_c1, kx_ft, kx_aI, kx_aL, kx_aR, kx_ln, Nat.reduceAdd, Option.toList, List.cons_append, List.nil_append, cf1_2, cf9_12, cf1_8, cf1_7]
  repeat (simp only [h64, hq, h9, h9c, pk_us, pk_un, ne_eq, Nat.reduceEqDiff, not_false_eq_true, cp1_7, cp1_8, ks_eq, ks_ss]; try dsimp only [kx_wp, kx_step, kx_lI, kx_lL, kx_lA, kx_gl, kx_pI, kx_pL, kx_pR, kx_pA, kx_pV, kx_s1, kx_s2, kx_sl, kx_pre, kx_c2, kx_pl, kx_cmp, kx_oF, kx_eqN, kx_nil, kx_c1, kx_ft, kx_aI, kx_aL, kx_aR, kx_ln, Nat.reduceAdd, Option.toList, List.cons_append, List.nil_append, cf1_2, cf9_12, cf1_8, cf1_7])
  repeat' apply And.intro
  all_goals try (first | with_reducible assumption | (with_reducible refine ck_nzI ?_; simp; done) | (with_reducible refine ck_nzL ?_; simp; done) | (with_reducible refine vp_in_nI ?_ ?_ <;> first | omega | decide) | (with_reducible refine Nat.le_of_ble_eq_true ?_; rfl) | omega | exact Or.inl trivial | exact Or.inr trivial | exact Or.inl rfl | exact Or.inr rfl)
  refine hC.1 138 _ _ _ _ _ _ _ 10 _ _ _ _ _ _ _ _ _ _ _ _ lX10_138 (ct_X10_theClock l G h64 h69 h7 hcl hc) ⟨by decide, rfl⟩ (h64) rfl rfl (Nat.le_of_ble_eq_true rfl) (by first | decide | omega) (by decide) (by omega) (by omega) dX10_trip_2 ?_
  refine hB bX10_trip_5 _ _ _ _ _ _ _ kX10_trip_5 ?_
  dsimp only [bX10_trip_5, kx_wp, kx_step, kx_lI, kx_lL, kx_lA, kx_gl, kx_pI, kx_pL, kx_pR, kx_pA, kx_pV, kx_s1, kx_s2, kx_sl, kx_pre, kx_c2, kx_pl, kx_cmp, kx_oF, kx_eqN, kx_nil, kx_c1, kx_ft, kx_aI, kx_aL, kx_aR, kx_ln, Nat.reduceAdd, Option.toList, List.cons_append, List.nil_append, cf1_2, cf9_12, cf1_8, cf1_7]
  repeat (simp only [h64, hq, h9, h9c, pk_us, pk_un, ne_eq, Nat.reduceEqDiff, not_false_eq_true, cp1_7, cp1_8, ks_eq, ks_ss]; try dsimp only [kx_wp, kx_step, kx_lI, kx_lL, kx_lA, kx_gl, kx_pI, kx_pL, kx_pR, kx_pA, kx_pV, kx_s1, kx_s2, kx_sl, kx_pre, kx_c2, kx_pl, kx_cmp, kx_oF, kx_eqN, kx_nil, kx_c1, kx_ft, kx_aI, kx_aL, kx_aR, kx_ln, Nat.reduceAdd, Option.toList, List.cons_append, List.nil_append, cf1_2, cf9_12, cf1_8, cf1_7])
  repeat' apply And.intro
  all_goals try (first | with_reducible assumption | (with_reducible refine ck_nzI ?_; simp; done) | (with_reducible refine ck_nzL ?_; simp; done) | (with_reducible refine vp_in_nI ?_ ?_ <;> first | omega | decide) | (with_reducible refine Nat.le_of_ble_eq_true ?_; rfl) | omega | exact Or.inl trivial | exact Or.inr trivial | exact Or.inl rfl | exact Or.inr rfl)
  · intro zc13
    have ze13 := zc13
    refine hB bX10_trip_18 _ _ _ _ _ _ _ kX10_trip_18 ?_
    dsimp only [bX10_trip_18, kx_wp, kx_step, kx_lI, kx_lL, kx_lA, kx_gl, kx_pI, kx_pL, kx_pR, kx_pA, kx_pV, kx_s1, kx_s2, kx_sl, kx_pre, kx_c2, kx_pl, kx_cmp, kx_oF, kx_eqN, kx_nil, kx_c1, kx_ft, kx_aI, kx_aL, kx_aR, kx_ln, Nat.reduceAdd, Option.toList, List.cons_append, List.nil_append, cf1_2, cf9_12, cf1_8, cf1_7]
    repeat (simp only [h64, hq, h9, h9c, pk_us, pk_un, ne_eq, Nat.reduceEqDiff, not_false_eq_true, cp1_7, cp1_8, ks_eq, ks_ss]; try dsimp only [kx_wp, kx_step, kx_lI, kx_lL, kx_lA, kx_gl, kx_pI, kx_pL, kx_pR, kx_pA, kx_pV, kx_s1, kx_s2, kx_sl, kx_pre, kx_c2, kx_pl, kx_cmp, kx_oF, kx_eqN, kx_nil, kx_c1, kx_ft, kx_aI, kx_aL, kx_aR, kx_ln, Nat.reduceAdd, Option.toList, List.cons_append, List.nil_append, cf1_2, cf9_12, cf1_8, cf1_7])
    repeat' apply And.intro
    all_goals try (first | with_reducible assumption | (with_reducible refine ck_nzI ?_; simp; done) | (with_reducible refine ck_nzL ?_; simp; done) | (with_reducible refine vp_in_nI ?_ ?_ <;> first | omega | decide) | (with_reducible refine Nat.le_of_ble_eq_true ?_; rfl) | omega | exact Or.inl trivial | exact Or.inr trivial | exact Or.inl rfl | exact Or.inr rfl)
    · intro zc19
      first | exact absurd rfl zc19 | exact absurd zc19 (by decide) | exact absurd (by decide) zc19 | (exfalso; first | exact h12 (Decidable.not_not.mp zc13) | exact absurd zc19 (by decide) | exact absurd zc44 (by decide) | exact absurd zc77 (by decide) | exact zc19 rfl | exact zc44 rfl | exact zc77 rfl | exact hrg zc37 | exact zc37 hrg) | (exfalso; simp_all; done)
    · intro zc19
      have ze19 := zc19
      refine hB bX10_trip_22 _ _ _ _ _ _ _ kX10_trip_22 ?_
      dsimp only [bX10_trip_22, kx_wp, kx_step, kx_lI, kx_lL, kx_lA, kx_gl, kx_pI, kx_pL, kx_pR, kx_pA, kx_pV, kx_s1, kx_s2, kx_sl, kx_pre, kx_c2, kx_pl, kx_cmp, kx_oF, kx_eqN, kx_nil, kx_c1, kx_ft, kx_aI, kx_aL, kx_aR, kx_ln, Nat.reduceAdd, Option.toList, List.cons_append, List.nil_append, cf1_2, cf9_12, cf1_8, cf1_7]
      repeat (simp only [h64, hq, h9, h9c, pk_us, pk_un, ne_eq, Nat.reduceEqDiff, not_false_eq_true, cp1_7, cp1_8, ks_eq, ks_ss]; try dsimp only [kx_wp, kx_step, kx_lI, kx_lL, kx_lA, kx_gl, kx_pI, kx_pL, kx_pR, kx_pA, kx_pV, kx_s1, kx_s2, kx_sl, kx_pre, kx_c2, kx_pl, kx_cmp, kx_oF, kx_eqN, kx_nil, kx_c1, kx_ft, kx_aI, kx_aL, kx_aR, kx_ln, Nat.reduceAdd, Option.toList, List.cons_append, List.nil_append, cf1_2, cf9_12, cf1_8, cf1_7])
      repeat' apply And.intro
      all_goals try (first | with_reducible assumption | (with_reducible refine ck_nzI ?_; simp; done) | (with_reducible refine ck_nzL ?_; simp; done) | (with_reducible refine vp_in_nI ?_ ?_ <;> first | omega | decide) | (with_reducible refine Nat.le_of_ble_eq_true ?_; rfl) | omega | exact Or.inl trivial | exact Or.inr trivial | exact Or.inl rfl | exact Or.inr rfl)
      refine hC.1 220 _ _ _ _ _ _ _ 9 _ _ _ _ _ _ _ _ _ _ _ _ lX10_220 (ct_X9_toothAt l G (V := V) (T := T) h9 hT) ⟨by decide, rfl⟩ (h9) rfl rfl (Nat.le_of_ble_eq_true rfl) (by first | decide | omega) (by decide) (by omega) (by omega) dX10_trip_30 ?_
      refine hB bX10_trip_33 _ _ _ _ _ _ _ kX10_trip_33 ?_
      dsimp only [bX10_trip_33, kx_wp, kx_step, kx_lI, kx_lL, kx_lA, kx_gl, kx_pI, kx_pL, kx_pR, kx_pA, kx_pV, kx_s1, kx_s2, kx_sl, kx_pre, kx_c2, kx_pl, kx_cmp, kx_oF, kx_eqN, kx_nil, kx_c1, kx_ft, kx_aI, kx_aL, kx_aR, kx_ln, Nat.reduceAdd, Option.toList, List.cons_append, List.nil_append, cf1_2, cf9_12, cf1_8, cf1_7]
      repeat (simp only [h64, hq, h9, h9c, pk_us, pk_un, ne_eq, Nat.reduceEqDiff, not_false_eq_true, cp1_7, cp1_8, ks_eq, ks_ss]; try dsimp only [kx_wp, kx_step, kx_lI, kx_lL, kx_lA, kx_gl, kx_pI, kx_pL, kx_pR, kx_pA, kx_pV, kx_s1, kx_s2, kx_sl, kx_pre, kx_c2, kx_pl, kx_cmp, kx_oF, kx_eqN, kx_nil, kx_c1, kx_ft, kx_aI, kx_aL, kx_aR, kx_ln, Nat.reduceAdd, Option.toList, List.cons_append, List.nil_append, cf1_2, cf9_12, cf1_8, cf1_7])
      repeat' apply And.intro
      all_goals try (first | with_reducible assumption | (with_reducible refine ck_nzI ?_; simp; done) | (with_reducible refine ck_nzL ?_; simp; done) | (with_reducible refine vp_in_nI ?_ ?_ <;> first | omega | decide) | (with_reducible refine Nat.le_of_ble_eq_true ?_; rfl) | omega | exact Or.inl trivial | exact Or.inr trivial | exact Or.inl rfl | exact Or.inr rfl)
      · intro zc37
        with_reducible first | have ze37 := Int32.not_lt.mpr zc37 | have ze37 := zc37
        refine hB bX10_trip_43 _ _ _ _ _ _ _ kX10_trip_43 ?_
        dsimp only [bX10_trip_43, kx_wp, kx_step, kx_lI, kx_lL, kx_lA, kx_gl, kx_pI, kx_pL, kx_pR, kx_pA, kx_pV, kx_s1, kx_s2, kx_sl, kx_pre, kx_c2, kx_pl, kx_cmp, kx_oF, kx_eqN, kx_nil, kx_c1, kx_ft, kx_aI, kx_aL, kx_aR, kx_ln, Nat.reduceAdd, Option.toList, List.cons_append, List.nil_append, cf1_2, cf9_12, cf1_8, cf1_7]
        repeat (simp only [h64, hq, h9, h9c, pk_us, pk_un, ne_eq, Nat.reduceEqDiff, not_false_eq_true, cp1_7, cp1_8, ks_eq, ks_ss]; try dsimp only [kx_wp, kx_step, kx_lI, kx_lL, kx_lA, kx_gl, kx_pI, kx_pL, kx_pR, kx_pA, kx_pV, kx_s1, kx_s2, kx_sl, kx_pre, kx_c2, kx_pl, kx_cmp, kx_oF, kx_eqN, kx_nil, kx_c1, kx_ft, kx_aI, kx_aL, kx_aR, kx_ln, Nat.reduceAdd, Option.toList, List.cons_append, List.nil_append, cf1_2, cf9_12, cf1_8, cf1_7])
        repeat' apply And.intro
        all_goals try (first | with_reducible assumption | (with_reducible refine ck_nzI ?_; simp; done) | (with_reducible refine ck_nzL ?_; simp; done) | (with_reducible refine vp_in_nI ?_ ?_ <;> first | omega | decide) | (with_reducible refine Nat.le_of_ble_eq_true ?_; rfl) | omega | exact Or.inl trivial | exact Or.inr trivial | exact Or.inl rfl | exact Or.inr rfl)
        · intro zc44
          first | exact absurd rfl zc44 | exact absurd zc44 (by decide) | exact absurd (by decide) zc44 | (exfalso; first | exact h12 (Decidable.not_not.mp zc13) | exact absurd zc19 (by decide) | exact absurd zc44 (by decide) | exact absurd zc77 (by decide) | exact zc19 rfl | exact zc44 rfl | exact zc77 rfl | exact hrg zc37 | exact zc37 hrg) | (exfalso; simp_all; done)
        · intro zc44
          have ze44 := zc44
          refine hB bX10_trip_47 _ _ _ _ _ _ _ kX10_trip_47 ?_
          dsimp only [bX10_trip_47, kx_wp, kx_step, kx_lI, kx_lL, kx_lA, kx_gl, kx_pI, kx_pL, kx_pR, kx_pA, kx_pV, kx_s1, kx_s2, kx_sl, kx_pre, kx_c2, kx_pl, kx_cmp, kx_oF, kx_eqN, kx_nil, kx_c1, kx_ft, kx_aI, kx_aL, kx_aR, kx_ln, Nat.reduceAdd, Option.toList, List.cons_append, List.nil_append, cf1_2, cf9_12, cf1_8, cf1_7]
          repeat (simp only [h64, hq, h9, h9c, pk_us, pk_un, ne_eq, Nat.reduceEqDiff, not_false_eq_true, cp1_7, cp1_8, ks_eq, ks_ss]; try dsimp only [kx_wp, kx_step, kx_lI, kx_lL, kx_lA, kx_gl, kx_pI, kx_pL, kx_pR, kx_pA, kx_pV, kx_s1, kx_s2, kx_sl, kx_pre, kx_c2, kx_pl, kx_cmp, kx_oF, kx_eqN, kx_nil, kx_c1, kx_ft, kx_aI, kx_aL, kx_aR, kx_ln, Nat.reduceAdd, Option.toList, List.cons_append, List.nil_append, cf1_2, cf9_12, cf1_8, cf1_7])
          repeat' apply And.intro
          all_goals try (first | with_reducible assumption | (with_reducible refine ck_nzI ?_; simp; done) | (with_reducible refine ck_nzL ?_; simp; done) | (with_reducible refine vp_in_nI ?_ ?_ <;> first | omega | decide) | (with_reducible refine Nat.le_of_ble_eq_true ?_; rfl) | omega | exact Or.inl trivial | exact Or.inr trivial | exact Or.inl rfl | exact Or.inr rfl)
          refine hC.1 220 _ _ _ _ _ _ _ 9 _ _ _ _ _ _ _ _ _ _ _ _ lX10_220 (ct_X9_toothAt l G (V := V) (T := T) h9 hT) ⟨by decide, rfl⟩ (h9) rfl rfl (Nat.le_of_ble_eq_true rfl) (by first | decide | omega) (by decide) (by omega) (by omega) dX10_trip_60 ?_
          refine hB bX10_trip_63 _ _ _ _ _ _ _ kX10_trip_63 ?_
          dsimp only [bX10_trip_63, kx_wp, kx_step, kx_lI, kx_lL, kx_lA, kx_gl, kx_pI, kx_pL, kx_pR, kx_pA, kx_pV, kx_s1, kx_s2, kx_sl, kx_pre, kx_c2, kx_pl, kx_cmp, kx_oF, kx_eqN, kx_nil, kx_c1, kx_ft, kx_aI, kx_aL, kx_aR, kx_ln, Nat.reduceAdd, Option.toList, List.cons_append, List.nil_append, cf1_2, cf9_12, cf1_8, cf1_7]
          repeat (simp only [h64, hq, h9, h9c, pk_us, pk_un, ne_eq, Nat.reduceEqDiff, not_false_eq_true, cp1_7, cp1_8, ks_eq, ks_ss]; try dsimp only [kx_wp, kx_step, kx_lI, kx_lL, kx_lA, kx_gl, kx_pI, kx_pL, kx_pR, kx_pA, kx_pV, kx_s1, kx_s2, kx_sl, kx_pre, kx_c2, kx_pl, kx_cmp, kx_oF, kx_eqN, kx_nil, kx_c1, kx_ft, kx_aI, kx_aL, kx_aR, kx_ln, Nat.reduceAdd, Option.toList, List.cons_append, List.nil_append, cf1_2, cf9_12, cf1_8, cf1_7])
          repeat' apply And.intro
          all_goals try (first | with_reducible assumption | (with_reducible refine ck_nzI ?_; simp; done) | (with_reducible refine ck_nzL ?_; simp; done) | (with_reducible refine vp_in_nI ?_ ?_ <;> first | omega | decide) | (with_reducible refine Nat.le_of_ble_eq_true ?_; rfl) | omega | exact Or.inl trivial | exact Or.inr trivial | exact Or.inl rfl | exact Or.inr rfl)
          refine hB bX10_trip_67 _ _ _ _ _ _ _ kX10_trip_67 ?_
          dsimp only [bX10_trip_67, kx_wp, kx_step, kx_lI, kx_lL, kx_lA, kx_gl, kx_pI, kx_pL, kx_pR, kx_pA, kx_pV, kx_s1, kx_s2, kx_sl, kx_pre, kx_c2, kx_pl, kx_cmp, kx_oF, kx_eqN, kx_nil, kx_c1, kx_ft, kx_aI, kx_aL, kx_aR, kx_ln, Nat.reduceAdd, Option.toList, List.cons_append, List.nil_append, cf1_2, cf9_12, cf1_8, cf1_7]
          repeat (simp only [h64, hq, h9, h9c, pk_us, pk_un, ne_eq, Nat.reduceEqDiff, not_false_eq_true, cp1_7, cp1_8, ks_eq, ks_ss]; try dsimp only [kx_wp, kx_step, kx_lI, kx_lL, kx_lA, kx_gl, kx_pI, kx_pL, kx_pR, kx_pA, kx_pV, kx_s1, kx_s2, kx_sl, kx_pre, kx_c2, kx_pl, kx_cmp, kx_oF, kx_eqN, kx_nil, kx_c1, kx_ft, kx_aI, kx_aL, kx_aR, kx_ln, Nat.reduceAdd, Option.toList, List.cons_append, List.nil_append, cf1_2, cf9_12, cf1_8, cf1_7])
          repeat' apply And.intro
          all_goals try (first | with_reducible assumption | (with_reducible refine ck_nzI ?_; simp; done) | (with_reducible refine ck_nzL ?_; simp; done) | (with_reducible refine vp_in_nI ?_ ?_ <;> first | omega | decide) | (with_reducible refine Nat.le_of_ble_eq_true ?_; rfl) | omega | exact Or.inl trivial | exact Or.inr trivial | exact Or.inl rfl | exact Or.inr rfl)
          · intro zc77
            first | exact absurd rfl zc77 | exact absurd zc77 (by decide) | exact absurd (by decide) zc77 | (exfalso; first | exact h12 (Decidable.not_not.mp zc13) | exact absurd zc19 (by decide) | exact absurd zc44 (by decide) | exact absurd zc77 (by decide) | exact zc19 rfl | exact zc44 rfl | exact zc77 rfl | exact hrg zc37 | exact zc37 hrg) | (exfalso; simp_all; done)
          · intro zc77
            have ze77 := zc77
            refine hB bX10_trip_80 _ _ _ _ _ _ _ kX10_trip_80 ?_
            dsimp only [bX10_trip_80, kx_wp, kx_step, kx_lI, kx_lL, kx_lA, kx_gl, kx_pI, kx_pL, kx_pR, kx_pA, kx_pV, kx_s1, kx_s2, kx_sl, kx_pre, kx_c2, kx_pl, kx_cmp, kx_oF, kx_eqN, kx_nil, kx_c1, kx_ft, kx_aI, kx_aL, kx_aR, kx_ln, Nat.reduceAdd, Option.toList, List.cons_append, List.nil_append, cf1_2, cf9_12, cf1_8, cf1_7]
            repeat (simp only [h64, hq, h9, h9c, pk_us, pk_un, ne_eq, Nat.reduceEqDiff, not_false_eq_true, cp1_7, cp1_8, ks_eq, ks_ss]; try dsimp only [kx_wp, kx_step, kx_lI, kx_lL, kx_lA, kx_gl, kx_pI, kx_pL, kx_pR, kx_pA, kx_pV, kx_s1, kx_s2, kx_sl, kx_pre, kx_c2, kx_pl, kx_cmp, kx_oF, kx_eqN, kx_nil, kx_c1, kx_ft, kx_aI, kx_aL, kx_aR, kx_ln, Nat.reduceAdd, Option.toList, List.cons_append, List.nil_append, cf1_2, cf9_12, cf1_8, cf1_7])
            repeat' apply And.intro
            all_goals try (first | with_reducible assumption | (with_reducible refine ck_nzI ?_; simp; done) | (with_reducible refine ck_nzL ?_; simp; done) | (with_reducible refine vp_in_nI ?_ ?_ <;> first | omega | decide) | (with_reducible refine Nat.le_of_ble_eq_true ?_; rfl) | omega | exact Or.inl trivial | exact Or.inr trivial | exact Or.inl rfl | exact Or.inr rfl)
            refine hC.1 223 _ _ _ _ _ _ _ 9 _ _ _ _ _ _ _ _ _ _ _ _ lX10_223 (ct_X9_placeAfter l G (h9c _)) ⟨by decide, rfl⟩ (h9c _) rfl rfl (Nat.le_of_ble_eq_true rfl) (by first | decide | omega) (by decide) (by omega) (by omega) dX10_trip_85 ?_
            refine hB bX10_trip_88 _ _ _ _ _ _ _ kX10_trip_88 ?_
            dsimp only [bX10_trip_88, kx_wp, kx_step, kx_lI, kx_lL, kx_lA, kx_gl, kx_pI, kx_pL, kx_pR, kx_pA, kx_pV, kx_s1, kx_s2, kx_sl, kx_pre, kx_c2, kx_pl, kx_cmp, kx_oF, kx_eqN, kx_nil, kx_c1, kx_ft, kx_aI, kx_aL, kx_aR, kx_ln, Nat.reduceAdd, Option.toList, List.cons_append, List.nil_append, cf1_2, cf9_12, cf1_8, cf1_7]
            repeat (simp only [h64, hq, h9, h9c, pk_us, pk_un, ne_eq, Nat.reduceEqDiff, not_false_eq_true, cp1_7, cp1_8, ks_eq, ks_ss]; try dsimp only [kx_wp, kx_step, kx_lI, kx_lL, kx_lA, kx_gl, kx_pI, kx_pL, kx_pR, kx_pA, kx_pV, kx_s1, kx_s2, kx_sl, kx_pre, kx_c2, kx_pl, kx_cmp, kx_oF, kx_eqN, kx_nil, kx_c1, kx_ft, kx_aI, kx_aL, kx_aR, kx_ln, Nat.reduceAdd, Option.toList, List.cons_append, List.nil_append, cf1_2, cf9_12, cf1_8, cf1_7])
            all_goals (repeat' apply And.intro)
            all_goals ((try clear hB hC); first | exact True.intro | with_reducible rfl | with_reducible assumption | (with_reducible refine vp_in_nI ?_ ?_ <;> first | omega | decide) | exact Nat.le_of_ble_eq_true rfl | (with_reducible refine ck_nzI ?_; simp; done) | (with_reducible refine ck_nzL ?_; simp; done) | (simp only [pk_us, pk_uLs, ze13, ze19, zc37, ze37, ze44, ze77, ↓reduceIte, not_true_eq_false, not_false_eq_true]; done) | (simp only [ze13, ze19, zc37, ze37, ze44, ze77, ↓reduceIte, not_true_eq_false, not_false_eq_true]; with_reducible rfl) | omega | skip)
      · intro zc37
        first | exact absurd rfl zc37 | exact absurd zc37 (by decide) | exact absurd (by decide) zc37 | (exfalso; first | exact h12 (Decidable.not_not.mp zc13) | exact absurd zc19 (by decide) | exact absurd zc44 (by decide) | exact absurd zc77 (by decide) | exact zc19 rfl | exact zc44 rfl | exact zc77 rfl | exact hrg zc37 | exact zc37 hrg) | (exfalso; simp_all; done)
  · intro zc13
    first | exact absurd rfl zc13 | exact absurd zc13 (by decide) | exact absurd (by decide) zc13 | (exfalso; first | exact h12 (Decidable.not_not.mp zc13) | exact absurd zc19 (by decide) | exact absurd zc44 (by decide) | exact absurd zc77 (by decide) | exact zc19 rfl | exact zc44 rfl | exact zc77 rfl | exact hrg zc37 | exact zc37 hrg) | (exfalso; simp_all; done)

set_option maxRecDepth 100000 in
set_option maxHeartbeats 4000000 in
theorem ct_X10_trip_l (l : Launch) (G : kx_G) {P : kx_P} {sz : Nat} {sv : Value} {K : Nat → Int32} (h64 : P 64 = kO 10 (kf (cr10 sv) K)) {cl : Nat} {cn : Nat → Nat} (h69 : P 69 = kR 8 (fun i => if i < cl then some (cn i) else none)) (h7 : K 7 = nI cl) (hcl : cl ≤ 8) {c : Nat} (hc : c < cl) {w : Nat} {V T Q Fo St Al Wm S C : Nat → Int32} {d : Int64} {h : Value} (H : cx_R P (cn c) w V T Q Fo St Al Wm) (hs : P (w + 5) = kI 0 64 S) (hq : P (cn c) = kO 1 (kf (cr1 (.ref w) d h) C)) (h12 : ¬ V 12 = 0)  : kx_M l G sX10_trip 6 0 0 [.ref 64, .int (nI c), .int (0)] P sz (some (.int (cx_pa V (C 8) (-1)))) (kx_set P (cn c) (kO 1 (kf (cr1 (.ref w) d h) (upd C 8 (cx_pa V (C 8) (-1)))))) sz := by
  have h64c : 64 ≤ cn c := H.2.1
  have hne : ¬ cn c = w := by have := H.2.2.1; omega
  have h9 : P w = kO 9 (kf (cr9 w) V) := H.2.2.2.2.2.1
  have h9c : ∀ y, kx_set P (cn c) y w = kO 9 (kf (cr9 w) V) := fun y => (ks_ne (fun z => hne z.symm)).trans h9
  have hA : P 65 = kO 0 (kf cr0 Al) := H.2.2.2.2.2.2.2.2.2.2.1
  have hT : P (w + 1) = kI 0 24 T := H.2.2.2.2.2.2.1
  refine kx_mk kx_tab kxLok_X10 (ini := false) [some (.ref 64), some (.int (nI c)), some (.int (0)), none] ⟨by decide, rfl, by decide, by decide⟩ (⟨_, rfl⟩) rfl rfl (fun g hB hC => ?_)
  refine hB bX10_trip_0 _ _ _ _ _ _ _ kX10_trip_0 ?_
  dsimp only [bX10_trip_0, kx_wp, kx_step, kx_lI, kx_lL, kx_lA, kx_gl, kx_pI, kx_pL, kx_pR, kx_pA, kx_pV, kx_s1, kx_s2, kx_sl, kx_pre, kx_c2, kx_pl, kx_cmp, kx_oF, kx_eqN, kx_nil, kx_c1, kx_ft, kx_aI, kx_aL, kx_aR, kx_ln, Nat.reduceAdd, Option.toList, List.cons_append, List.nil_append, cf1_2, cf9_12, cf1_8, cf1_7]
  repeat (simp only [h64, hq, h9, pk_us, cp1_7, cp1_8, ks_eq, ks_ss]; try dsimp only [kx_wp, kx_step, kx_lI, kx_lL, kx_lA, kx_gl, kx_pI, kx_pL, kx_pR, kx_pA, kx_pV, kx_s1, kx_s2, kx_sl, kx_pre, kx_c2, kx_pl, kx_cmp, kx_oF, kx_eqN, kx_nil, kx_c1, kx_ft, kx_aI, kx_aL, kx_aR, kx_ln, Nat.reduceAdd, Option.toList, List.cons_append, List.nil_append, cf1_2, cf9_12, cf1_8, cf1_7])
  repeat' apply And.intro
  all_goals try (first | with_reducible assumption | (with_reducible refine ck_nzI ?_; simp; done) | (with_reducible refine ck_nzL ?_; simp; done) | (with_reducible refine vp_in_nI ?_ ?_ <;> first | omega | decide) | (with_reducible refine Nat.le_of_ble_eq_true ?_; rfl) | omega | exact Or.inl trivial | exact Or.inr trivial | exact Or.inl rfl | exact Or.inr rfl)
  refine hC.1 138 _ _ _ _ _ _ _ 10 _ _ _ _ _ _ _ _ _ _ _ _ lX10_138 (ct_X10_theClock l G h64 h69 h7 hcl hc) ⟨by decide, rfl⟩ (h64) rfl rfl (Nat.le_of_ble_eq_true rfl) (by first | decide | omega) (by decide) (by omega) (by omega) dX10_trip_2 ?_
  refine hB bX10_trip_5 _ _ _ _ _ _ _ kX10_trip_5 ?_
  dsimp only [bX10_trip_5, kx_wp, kx_step, kx_lI, kx_lL, kx_lA, kx_gl, kx_pI, kx_pL, kx_pR, kx_pA, kx_pV, kx_s1, kx_s2, kx_sl, kx_pre, kx_c2, kx_pl, kx_cmp, kx_oF, kx_eqN, kx_nil, kx_c1, kx_ft, kx_aI, kx_aL, kx_aR, kx_ln, Nat.reduceAdd, Option.toList, List.cons_append, List.nil_append, cf1_2, cf9_12, cf1_8, cf1_7]
  repeat (simp only [h64, hq, h9, pk_us, cp1_7, cp1_8, ks_eq, ks_ss]; try dsimp only [kx_wp, kx_step, kx_lI, kx_lL, kx_lA, kx_gl, kx_pI, kx_pL, kx_pR, kx_pA, kx_pV, kx_s1, kx_s2, kx_sl, kx_pre, kx_c2, kx_pl, kx_cmp, kx_oF, kx_eqN, kx_nil, kx_c1, kx_ft, kx_aI, kx_aL, kx_aR, kx_ln, Nat.reduceAdd, Option.toList, List.cons_append, List.nil_append, cf1_2, cf9_12, cf1_8, cf1_7])
  repeat' apply And.intro
  all_goals try (first | with_reducible assumption | (with_reducible refine ck_nzI ?_; simp; done) | (with_reducible refine ck_nzL ?_; simp; done) | (with_reducible refine vp_in_nI ?_ ?_ <;> first | omega | decide) | (with_reducible refine Nat.le_of_ble_eq_true ?_; rfl) | omega | exact Or.inl trivial | exact Or.inr trivial | exact Or.inl rfl | exact Or.inr rfl)
  · intro zc13
    have ze13 := zc13
    refine hB bX10_trip_18 _ _ _ _ _ _ _ kX10_trip_18 ?_
    dsimp only [bX10_trip_18, kx_wp, kx_step, kx_lI, kx_lL, kx_lA, kx_gl, kx_pI, kx_pL, kx_pR, kx_pA, kx_pV, kx_s1, kx_s2, kx_sl, kx_pre, kx_c2, kx_pl, kx_cmp, kx_oF, kx_eqN, kx_nil, kx_c1, kx_ft, kx_aI, kx_aL, kx_aR, kx_ln, Nat.reduceAdd, Option.toList, List.cons_append, List.nil_append, cf1_2, cf9_12, cf1_8, cf1_7]
    repeat (simp only [h64, hq, h9, pk_us, cp1_7, cp1_8, ks_eq, ks_ss]; try dsimp only [kx_wp, kx_step, kx_lI, kx_lL, kx_lA, kx_gl, kx_pI, kx_pL, kx_pR, kx_pA, kx_pV, kx_s1, kx_s2, kx_sl, kx_pre, kx_c2, kx_pl, kx_cmp, kx_oF, kx_eqN, kx_nil, kx_c1, kx_ft, kx_aI, kx_aL, kx_aR, kx_ln, Nat.reduceAdd, Option.toList, List.cons_append, List.nil_append, cf1_2, cf9_12, cf1_8, cf1_7])
    repeat' apply And.intro
    all_goals try (first | with_reducible assumption | (with_reducible refine ck_nzI ?_; simp; done) | (with_reducible refine ck_nzL ?_; simp; done) | (with_reducible refine vp_in_nI ?_ ?_ <;> first | omega | decide) | (with_reducible refine Nat.le_of_ble_eq_true ?_; rfl) | omega | exact Or.inl trivial | exact Or.inr trivial | exact Or.inl rfl | exact Or.inr rfl)
    · intro zc19
      have ze19 := zc19
      refine hB bX10_trip_43 _ _ _ _ _ _ _ kX10_trip_43 ?_
      dsimp only [bX10_trip_43, kx_wp, kx_step, kx_lI, kx_lL, kx_lA, kx_gl, kx_pI, kx_pL, kx_pR, kx_pA, kx_pV, kx_s1, kx_s2, kx_sl, kx_pre, kx_c2, kx_pl, kx_cmp, kx_oF, kx_eqN, kx_nil, kx_c1, kx_ft, kx_aI, kx_aL, kx_aR, kx_ln, Nat.reduceAdd, Option.toList, List.cons_append, List.nil_append, cf1_2, cf9_12, cf1_8, cf1_7]
      repeat (simp only [h64, hq, h9, pk_us, cp1_7, cp1_8, ks_eq, ks_ss]; try dsimp only [kx_wp, kx_step, kx_lI, kx_lL, kx_lA, kx_gl, kx_pI, kx_pL, kx_pR, kx_pA, kx_pV, kx_s1, kx_s2, kx_sl, kx_pre, kx_c2, kx_pl, kx_cmp, kx_oF, kx_eqN, kx_nil, kx_c1, kx_ft, kx_aI, kx_aL, kx_aR, kx_ln, Nat.reduceAdd, Option.toList, List.cons_append, List.nil_append, cf1_2, cf9_12, cf1_8, cf1_7])
      repeat' apply And.intro
      all_goals try (first | with_reducible assumption | (with_reducible refine ck_nzI ?_; simp; done) | (with_reducible refine ck_nzL ?_; simp; done) | (with_reducible refine vp_in_nI ?_ ?_ <;> first | omega | decide) | (with_reducible refine Nat.le_of_ble_eq_true ?_; rfl) | omega | exact Or.inl trivial | exact Or.inr trivial | exact Or.inl rfl | exact Or.inr rfl)
      · intro zc44
        have ze44 := zc44
        refine hB bX10_trip_67 _ _ _ _ _ _ _ kX10_trip_67 ?_
        dsimp only [bX10_trip_67, kx_wp, kx_step, kx_lI, kx_lL, kx_lA, kx_gl, kx_pI, kx_pL, kx_pR, kx_pA, kx_pV, kx_s1, kx_s2, kx_sl, kx_pre, kx_c2, kx_pl, kx_cmp, kx_oF, kx_eqN, kx_nil, kx_c1, kx_ft, kx_aI, kx_aL, kx_aR, kx_ln, Nat.reduceAdd, Option.toList, List.cons_append, List.nil_append, cf1_2, cf9_12, cf1_8, cf1_7]
        repeat (simp only [h64, hq, h9, pk_us, cp1_7, cp1_8, ks_eq, ks_ss]; try dsimp only [kx_wp, kx_step, kx_lI, kx_lL, kx_lA, kx_gl, kx_pI, kx_pL, kx_pR, kx_pA, kx_pV, kx_s1, kx_s2, kx_sl, kx_pre, kx_c2, kx_pl, kx_cmp, kx_oF, kx_eqN, kx_nil, kx_c1, kx_ft, kx_aI, kx_aL, kx_aR, kx_ln, Nat.reduceAdd, Option.toList, List.cons_append, List.nil_append, cf1_2, cf9_12, cf1_8, cf1_7])
        repeat' apply And.intro
        all_goals try (first | with_reducible assumption | (with_reducible refine ck_nzI ?_; simp; done) | (with_reducible refine ck_nzL ?_; simp; done) | (with_reducible refine vp_in_nI ?_ ?_ <;> first | omega | decide) | (with_reducible refine Nat.le_of_ble_eq_true ?_; rfl) | omega | exact Or.inl trivial | exact Or.inr trivial | exact Or.inl rfl | exact Or.inr rfl)
        · intro zc77
          have ze77 := zc77
          refine hB bX10_trip_84 _ _ _ _ _ _ _ kX10_trip_84 ?_
          dsimp only [bX10_trip_84, kx_wp, kx_step, kx_lI, kx_lL, kx_lA, kx_gl, kx_pI, kx_pL, kx_pR, kx_pA, kx_pV, kx_s1, kx_s2, kx_sl, kx_pre, kx_c2, kx_pl, kx_cmp, kx_oF, kx_eqN, kx_nil, kx_c1, kx_ft, kx_aI, kx_aL, kx_aR, kx_ln, Nat.reduceAdd, Option.toList, List.cons_append, List.nil_append, cf1_2, cf9_12, cf1_8, cf1_7]
          repeat (simp only [h64, hq, h9, pk_us, cp1_7, cp1_8, ks_eq, ks_ss]; try dsimp only [kx_wp, kx_step, kx_lI, kx_lL, kx_lA, kx_gl, kx_pI, kx_pL, kx_pR, kx_pA, kx_pV, kx_s1, kx_s2, kx_sl, kx_pre, kx_c2, kx_pl, kx_cmp, kx_oF, kx_eqN, kx_nil, kx_c1, kx_ft, kx_aI, kx_aL, kx_aR, kx_ln, Nat.reduceAdd, Option.toList, List.cons_append, List.nil_append, cf1_2, cf9_12, cf1_8, cf1_7])
          repeat' apply And.intro
          all_goals try (first | with_reducible assumption | (with_reducible refine ck_nzI ?_; simp; done) | (with_reducible refine ck_nzL ?_; simp; done) | (with_reducible refine vp_in_nI ?_ ?_ <;> first | omega | decide) | (with_reducible refine Nat.le_of_ble_eq_true ?_; rfl) | omega | exact Or.inl trivial | exact Or.inr trivial | exact Or.inl rfl | exact Or.inr rfl)
          refine hC.1 223 _ _ _ _ _ _ _ 9 _ _ _ _ _ _ _ _ _ _ _ _ lX10_223 (ct_X9_placeAfter l G h9) ⟨by decide, rfl⟩ (h9) rfl rfl (Nat.le_of_ble_eq_true rfl) (by first | decide | omega) (by decide) (by omega) (by omega) dX10_trip_85 ?_
          refine hB bX10_trip_88 _ _ _ _ _ _ _ kX10_trip_88 ?_
          dsimp only [bX10_trip_88, kx_wp, kx_step, kx_lI, kx_lL, kx_lA, kx_gl, kx_pI, kx_pL, kx_pR, kx_pA, kx_pV, kx_s1, kx_s2, kx_sl, kx_pre, kx_c2, kx_pl, kx_cmp, kx_oF, kx_eqN, kx_nil, kx_c1, kx_ft, kx_aI, kx_aL, kx_aR, kx_ln, Nat.reduceAdd, Option.toList, List.cons_append, List.nil_append, cf1_2, cf9_12, cf1_8, cf1_7]
          repeat (simp only [h64, hq, h9, pk_us, cp1_7, cp1_8, ks_eq, ks_ss]; try dsimp only [kx_wp, kx_step, kx_lI, kx_lL, kx_lA, kx_gl, kx_pI, kx_pL, kx_pR, kx_pA, kx_pV, kx_s1, kx_s2, kx_sl, kx_pre, kx_c2, kx_pl, kx_cmp, kx_oF, kx_eqN, kx_nil, kx_c1, kx_ft, kx_aI, kx_aL, kx_aR, kx_ln, Nat.reduceAdd, Option.toList, List.cons_append, List.nil_append, cf1_2, cf9_12, cf1_8, cf1_7])
          all_goals (repeat' apply And.intro)
          all_goals ((try clear hB hC); first | exact True.intro | with_reducible rfl | with_reducible assumption | (with_reducible refine vp_in_nI ?_ ?_ <;> first | omega | decide) | exact Nat.le_of_ble_eq_true rfl | (with_reducible refine ck_nzI ?_; simp; done) | (with_reducible refine ck_nzL ?_; simp; done) | (simp only [pk_us, pk_uLs, ze13, eq_true ze19, eq_true ze44, eq_true ze77, ↓reduceIte, not_true_eq_false, not_false_eq_true]; done) | (simp only [ze13, eq_true ze19, eq_true ze44, eq_true ze77, ↓reduceIte, not_true_eq_false, not_false_eq_true]; with_reducible rfl) | omega | skip)
        · intro zc77
          first | exact absurd rfl zc77 | exact absurd zc77 (by decide) | exact absurd (by decide) zc77 | (exfalso; first | exact h12 (Decidable.not_not.mp zc13) | exact absurd zc19 (by decide) | exact absurd zc44 (by decide) | exact absurd zc77 (by decide) | exact zc19 rfl | exact zc44 rfl | exact zc77 rfl | exact hrg zc37 | exact zc37 hrg) | (exfalso; simp_all; done)
      · intro zc44
        first | exact absurd rfl zc44 | exact absurd zc44 (by decide) | exact absurd (by decide) zc44 | (exfalso; first | exact h12 (Decidable.not_not.mp zc13) | exact absurd zc19 (by decide) | exact absurd zc44 (by decide) | exact absurd zc77 (by decide) | exact zc19 rfl | exact zc44 rfl | exact zc77 rfl | exact hrg zc37 | exact zc37 hrg) | (exfalso; simp_all; done)
    · intro zc19
      first | exact absurd rfl zc19 | exact absurd zc19 (by decide) | exact absurd (by decide) zc19 | (exfalso; first | exact h12 (Decidable.not_not.mp zc13) | exact absurd zc19 (by decide) | exact absurd zc44 (by decide) | exact absurd zc77 (by decide) | exact zc19 rfl | exact zc44 rfl | exact zc77 rfl | exact hrg zc37 | exact zc37 hrg) | (exfalso; simp_all; done)
  · intro zc13
    first | exact absurd rfl zc13 | exact absurd zc13 (by decide) | exact absurd (by decide) zc13 | (exfalso; first | exact h12 (Decidable.not_not.mp zc13) | exact absurd zc19 (by decide) | exact absurd zc44 (by decide) | exact absurd zc77 (by decide) | exact zc19 rfl | exact zc44 rfl | exact zc77 rfl | exact hrg zc37 | exact zc37 hrg) | (exfalso; simp_all; done)

set_option maxRecDepth 100000 in
set_option maxHeartbeats 4000000 in
theorem ct_X10_trip_f (l : Launch) (G : kx_G) (hst : l.stackTraces = false) {P : kx_P} {sz : Nat} {sv : Value} {K : Nat → Int32} (h64 : P 64 = kO 10 (kf (cr10 sv) K)) {b : Int32} {x : Int32} (hx : x < 0 ∨ K 7 ≤ x)  : kx_X l G sX10_trip 7 [.ref 64, .int (x), .int (b)] P sz "java/util/NoSuchElementException" := by
  refine kx_mkx hst kx_tab kxLok_X10 [some (.ref 64), some (.int (x)), some (.int (b)), none] ⟨by decide, rfl, by decide⟩ rfl rfl (fun g hB hC hX hT => ?_)
  refine hB bX10_trip_0 _ _ _ _ _ _ _ kX10_trip_0 ?_
  dsimp only [bX10_trip_0, kx_wp, kx_step, kx_lI, kx_lL, kx_lA, kx_gl, kx_pI, kx_pL, kx_pR, kx_pA, kx_pV, kx_s1, kx_s2, kx_sl, kx_pre, kx_c2, kx_pl, kx_cmp, kx_oF, kx_eqN, kx_nil, kx_c1, kx_ft, kx_aI, kx_aL, kx_aR, kx_ln, Nat.reduceAdd, Option.toList, List.cons_append, List.nil_append, cf1_2, cf9_12, cf1_8, cf1_7]
  repeat (simp only [cp1_7, cp1_8, ks_eq, ks_ss]; try dsimp only [kx_wp, kx_step, kx_lI, kx_lL, kx_lA, kx_gl, kx_pI, kx_pL, kx_pR, kx_pA, kx_pV, kx_s1, kx_s2, kx_sl, kx_pre, kx_c2, kx_pl, kx_cmp, kx_oF, kx_eqN, kx_nil, kx_c1, kx_ft, kx_aI, kx_aL, kx_aR, kx_ln, Nat.reduceAdd, Option.toList, List.cons_append, List.nil_append, cf1_2, cf9_12, cf1_8, cf1_7])
  repeat' apply And.intro
  all_goals try (first | with_reducible assumption | (with_reducible refine ck_nzI ?_; simp; done) | (with_reducible refine ck_nzL ?_; simp; done) | (with_reducible refine vp_in_nI ?_ ?_ <;> first | omega | decide) | (with_reducible refine Nat.le_of_ble_eq_true ?_; rfl) | omega | exact Or.inl trivial | exact Or.inr trivial | exact Or.inl rfl | exact Or.inr rfl)
  exact hX.1 138 _ _ _ _ _ 10 _ _ _ _ _ lX10_138 (ct_X10_theClock_x l G hst h64 hx) ⟨by decide, rfl⟩ (h64) rfl rfl (Nat.le_of_ble_eq_true rfl) (by first | decide | omega) (by decide) dX10_trip_2

def bX10_bestPennies_0 : List kx_O := [(.bipush (-20), 0, 0, 0, .int (-20)), (.istore_n 3, 3, 0, 0, .null), (.ldc2_w 387, 0, 0, 0, .long (1152921504606846976)), (.lstore 4, 4, 0, 0, .null), (.bipush (-20), 0, 0, 0, .int (-20)), (.istore 6, 6, 0, 0, .null)]
theorem kX10_bestPennies_0 : kx_oks kxL_X10 false cX10_bestPennies 0 bX10_bestPennies_0 = true := by decide +kernel
def bX10_bestPennies_12 : List kx_O := [(.iload 6, 6, 0, 0, .null), (.bipush 20, 0, 0, 0, .int 20), (.if_icmp .gt 48, 64, 0, 0, .null)]
theorem kX10_bestPennies_12 : kx_oks kxL_X10 false cX10_bestPennies 12 bX10_bestPennies_12 = true := by decide +kernel
def bX10_bestPennies_19 : List kx_O := [(.lload_n 0, 0, 0, 0, .null), (.aload_n 2, 2, 0, 0, .null), (.getfield 180, 1, 2, 0, .null), (.getfield 389, 9, 5, 0, .null), (.i2l, 0, 0, 0, .null), (.iload 6, 6, 0, 0, .null), (.aload_n 2, 2, 0, 0, .null), (.getfield 207, 1, 9, 0, .null), (.isub, 0, 0, 0, .null), (.i2l, 0, 0, 0, .null), (.lmul, 0, 0, 0, .null), (.ladd, 0, 0, 0, .null)]
theorem kX10_bestPennies_19 : kx_oks kxL_X10 false cX10_bestPennies 19 bX10_bestPennies_19 = true := by decide +kernel
def bX10_bestPennies_41 : List kx_O := [(.lstore 7, 7, 0, 0, .null), (.lload 7, 7, 0, 0, .null), (.lload 4, 4, 0, 0, .null), (.lcmp, 0, 0, 0, .null), (.ifCond .ge 10, 58, 0, 0, .null)]
theorem kX10_bestPennies_41 : kx_oks kxL_X10 false cX10_bestPennies 41 bX10_bestPennies_41 = true := by decide +kernel
def bX10_bestPennies_51 : List kx_O := [(.lload 7, 7, 0, 0, .null), (.lstore 4, 4, 0, 0, .null), (.iload 6, 6, 0, 0, .null), (.istore_n 3, 3, 0, 0, .null)]
theorem kX10_bestPennies_51 : kx_oks kxL_X10 false cX10_bestPennies 51 bX10_bestPennies_51 = true := by decide +kernel
def bX10_bestPennies_58 : List kx_O := [(.iinc 6 1, 6, 0, 0, .int 1), (.goto (-49), 12, 0, 0, .null)]
theorem kX10_bestPennies_58 : kx_oks kxL_X10 false cX10_bestPennies 58 bX10_bestPennies_58 = true := by decide +kernel
def bX10_bestPennies_64 : List kx_O := [(.iload_n 3, 3, 0, 0, .null), (.ireturn, 0, 0, 0, .null)]
theorem kX10_bestPennies_64 : kx_oks kxL_X10 false cX10_bestPennies 64 bX10_bestPennies_64 = true := by decide +kernel
theorem dX10_bestPennies_38 : decode cX10_bestPennies 38 = .ok (.invokestatic 392, 3) := by decide +kernel
set_option maxRecDepth 100000 in
set_option maxHeartbeats 4000000 in
theorem ct_X10_bestPennies (l : Launch) (G : kx_G) {P : kx_P} {sz : Nat} {c w : Nat} {V C : Nat → Int32} {d : Int64} {h : Value} (hq : P c = kO 1 (kf (cr1 (.ref w) d h) C)) (h9 : P w = kO 9 (kf (cr9 w) V)) {v0 : Int64}  : kx_M l G sX10_bestPennies 2 0 0 [.long v0, .ref c] P sz (some (.int ((cx_bp v0 (V 5) (C 9) 41).1))) P sz := by
  refine kx_mk kx_tab kxLok_X10 (ini := false) [some (.long v0), none, some (.ref c), none, none, none, none, none, none] ⟨by decide, rfl, by decide, by decide⟩ (⟨_, rfl⟩) (by simp [kx_in, Value.category]) rfl (fun g hB hC => ?_)
  have loop12 : ∀ (n9 : Nat) (k : Nat) (a b : Option Value), k + n9 = 41 → g 12 [some (.long v0), none, some (.ref c), some (.int (cx_bp v0 (V 5) (C 9) k).1), some (.long (cx_bp v0 (V 5) (C 9) k).2), none, some (.int (nI k - 20)), a, b] [] P sz 0 0 := by
    intro n9
    induction n9 with
    | zero =>
      intro k a b hk
      obtain rfl : k = 41 := by omega
      refine hB bX10_bestPennies_12 _ _ _ _ _ _ _ kX10_bestPennies_12 ?_
      dsimp only [bX10_bestPennies_12, kx_wp, kx_step, kx_lI, kx_lL, kx_lA, kx_gl, kx_pI, kx_pL, kx_pR, kx_pA, kx_pV, kx_s1, kx_s2, kx_sl, kx_pre, kx_c2, kx_pl, kx_cmp, kx_oF, kx_eqN, kx_nil, kx_c1, kx_ft, kx_aI, kx_aL, kx_aR, kx_ln, Nat.reduceAdd, Option.toList, List.cons_append, List.nil_append, cf1_2, cf9_5, cf1_9]
      repeat (simp only [hq, h9, lg_cmp_ge, lg_cmp_le, lg_cmp_gt, lg_cmp_lt, lg_cmp_eq, ks_eq, ks_ss]; try dsimp only [kx_wp, kx_step, kx_lI, kx_lL, kx_lA, kx_gl, kx_pI, kx_pL, kx_pR, kx_pA, kx_pV, kx_s1, kx_s2, kx_sl, kx_pre, kx_c2, kx_pl, kx_cmp, kx_oF, kx_eqN, kx_nil, kx_c1, kx_ft, kx_aI, kx_aL, kx_aR, kx_ln, Nat.reduceAdd, Option.toList, List.cons_append, List.nil_append, cf1_2, cf9_5, cf1_9])
      repeat' apply And.intro
      all_goals try (first | with_reducible assumption | (with_reducible refine ck_nzI ?_; simp; done) | (with_reducible refine ck_nzL ?_; simp; done) | (with_reducible refine vp_in_nI ?_ ?_ <;> first | omega | decide) | (with_reducible refine Nat.le_of_ble_eq_true ?_; rfl) | omega | exact Or.inl trivial | exact Or.inr trivial | exact Or.inl rfl | exact Or.inr rfl)
      · intro zc16
        with_reducible first | have ze16 := Int32.not_le.mpr zc16 | have ze16 := zc16
        refine hB bX10_bestPennies_64 _ _ _ _ _ _ _ kX10_bestPennies_64 ?_
        dsimp only [bX10_bestPennies_64, kx_wp, kx_step, kx_lI, kx_lL, kx_lA, kx_gl, kx_pI, kx_pL, kx_pR, kx_pA, kx_pV, kx_s1, kx_s2, kx_sl, kx_pre, kx_c2, kx_pl, kx_cmp, kx_oF, kx_eqN, kx_nil, kx_c1, kx_ft, kx_aI, kx_aL, kx_aR, kx_ln, Nat.reduceAdd, Option.toList, List.cons_append, List.nil_append, cf1_2, cf9_5, cf1_9]
        repeat (simp only [hq, h9, lg_cmp_ge, lg_cmp_le, lg_cmp_gt, lg_cmp_lt, lg_cmp_eq, ks_eq, ks_ss]; try dsimp only [kx_wp, kx_step, kx_lI, kx_lL, kx_lA, kx_gl, kx_pI, kx_pL, kx_pR, kx_pA, kx_pV, kx_s1, kx_s2, kx_sl, kx_pre, kx_c2, kx_pl, kx_cmp, kx_oF, kx_eqN, kx_nil, kx_c1, kx_ft, kx_aI, kx_aL, kx_aR, kx_ln, Nat.reduceAdd, Option.toList, List.cons_append, List.nil_append, cf1_2, cf9_5, cf1_9])
        all_goals (repeat' apply And.intro)
        all_goals ((try clear hB hC); first | exact True.intro | rfl)
      · intro zc16
        first | exact absurd rfl zc16 | exact absurd zc16 (by decide) | exact absurd (by decide) zc16 | (exfalso; first | exact cx_pk1 k (by omega) zc16 | exact zc16 (by decide)) | (exfalso; simp_all; done)
    | succ n9 ih =>
      intro k a b hk
      have hstep := fun a b => ih (k + 1) a b (by omega)
      rw [cx_bp_s] at hstep
      refine hB bX10_bestPennies_12 _ _ _ _ _ _ _ kX10_bestPennies_12 ?_
      dsimp only [bX10_bestPennies_12, kx_wp, kx_step, kx_lI, kx_lL, kx_lA, kx_gl, kx_pI, kx_pL, kx_pR, kx_pA, kx_pV, kx_s1, kx_s2, kx_sl, kx_pre, kx_c2, kx_pl, kx_cmp, kx_oF, kx_eqN, kx_nil, kx_c1, kx_ft, kx_aI, kx_aL, kx_aR, kx_ln, Nat.reduceAdd, Option.toList, List.cons_append, List.nil_append, cf1_2, cf9_5, cf1_9]
      repeat (simp only [hq, h9, lg_cmp_ge, lg_cmp_le, lg_cmp_gt, lg_cmp_lt, lg_cmp_eq, ks_eq, ks_ss]; try dsimp only [kx_wp, kx_step, kx_lI, kx_lL, kx_lA, kx_gl, kx_pI, kx_pL, kx_pR, kx_pA, kx_pV, kx_s1, kx_s2, kx_sl, kx_pre, kx_c2, kx_pl, kx_cmp, kx_oF, kx_eqN, kx_nil, kx_c1, kx_ft, kx_aI, kx_aL, kx_aR, kx_ln, Nat.reduceAdd, Option.toList, List.cons_append, List.nil_append, cf1_2, cf9_5, cf1_9])
      repeat' apply And.intro
      all_goals try (first | with_reducible assumption | (with_reducible refine ck_nzI ?_; simp; done) | (with_reducible refine ck_nzL ?_; simp; done) | (with_reducible refine vp_in_nI ?_ ?_ <;> first | omega | decide) | (with_reducible refine Nat.le_of_ble_eq_true ?_; rfl) | omega | exact Or.inl trivial | exact Or.inr trivial | exact Or.inl rfl | exact Or.inr rfl)
      · intro zc16
        first | exact absurd rfl zc16 | exact absurd zc16 (by decide) | exact absurd (by decide) zc16 | (exfalso; first | exact cx_pk1 k (by omega) zc16 | exact zc16 (by decide)) | (exfalso; simp_all; done)
      · intro zc16
        with_reducible first | have ze16 := Int32.not_lt.mp zc16 | have ze16 := zc16
        refine hB bX10_bestPennies_19 _ _ _ _ _ _ _ kX10_bestPennies_19 ?_
        dsimp only [bX10_bestPennies_19, kx_wp, kx_step, kx_lI, kx_lL, kx_lA, kx_gl, kx_pI, kx_pL, kx_pR, kx_pA, kx_pV, kx_s1, kx_s2, kx_sl, kx_pre, kx_c2, kx_pl, kx_cmp, kx_oF, kx_eqN, kx_nil, kx_c1, kx_ft, kx_aI, kx_aL, kx_aR, kx_ln, Nat.reduceAdd, Option.toList, List.cons_append, List.nil_append, cf1_2, cf9_5, cf1_9]
        repeat (simp only [hq, h9, lg_cmp_ge, lg_cmp_le, lg_cmp_gt, lg_cmp_lt, lg_cmp_eq, ks_eq, ks_ss]; try dsimp only [kx_wp, kx_step, kx_lI, kx_lL, kx_lA, kx_gl, kx_pI, kx_pL, kx_pR, kx_pA, kx_pV, kx_s1, kx_s2, kx_sl, kx_pre, kx_c2, kx_pl, kx_cmp, kx_oF, kx_eqN, kx_nil, kx_c1, kx_ft, kx_aI, kx_aL, kx_aR, kx_ln, Nat.reduceAdd, Option.toList, List.cons_append, List.nil_append, cf1_2, cf9_5, cf1_9])
        repeat' apply And.intro
        all_goals try (first | with_reducible assumption | (with_reducible refine ck_nzI ?_; simp; done) | (with_reducible refine ck_nzL ?_; simp; done) | (with_reducible refine vp_in_nI ?_ ?_ <;> first | omega | decide) | (with_reducible refine Nat.le_of_ble_eq_true ?_; rfl) | omega | exact Or.inl trivial | exact Or.inr trivial | exact Or.inl rfl | exact Or.inr rfl)
        refine hC.2.1 392 _ _ _ _ _ _ _ _ _ _ _ _ _ _ _ _ _ lX10_392 (ct_J9_abs_067f4 l G) rfl rfl (Nat.le_of_ble_eq_true rfl) (by first | decide | omega) (by decide) (by omega) (by omega) dX10_bestPennies_38 ?_
        refine hB bX10_bestPennies_41 _ _ _ _ _ _ _ kX10_bestPennies_41 ?_
        dsimp only [bX10_bestPennies_41, kx_wp, kx_step, kx_lI, kx_lL, kx_lA, kx_gl, kx_pI, kx_pL, kx_pR, kx_pA, kx_pV, kx_s1, kx_s2, kx_sl, kx_pre, kx_c2, kx_pl, kx_cmp, kx_oF, kx_eqN, kx_nil, kx_c1, kx_ft, kx_aI, kx_aL, kx_aR, kx_ln, Nat.reduceAdd, Option.toList, List.cons_append, List.nil_append, cf1_2, cf9_5, cf1_9]
        repeat (simp only [hq, h9, lg_cmp_ge, lg_cmp_le, lg_cmp_gt, lg_cmp_lt, lg_cmp_eq, ks_eq, ks_ss]; try dsimp only [kx_wp, kx_step, kx_lI, kx_lL, kx_lA, kx_gl, kx_pI, kx_pL, kx_pR, kx_pA, kx_pV, kx_s1, kx_s2, kx_sl, kx_pre, kx_c2, kx_pl, kx_cmp, kx_oF, kx_eqN, kx_nil, kx_c1, kx_ft, kx_aI, kx_aL, kx_aR, kx_ln, Nat.reduceAdd, Option.toList, List.cons_append, List.nil_append, cf1_2, cf9_5, cf1_9])
        repeat' apply And.intro
        all_goals try (first | with_reducible assumption | (with_reducible refine ck_nzI ?_; simp; done) | (with_reducible refine ck_nzL ?_; simp; done) | (with_reducible refine vp_in_nI ?_ ?_ <;> first | omega | decide) | (with_reducible refine Nat.le_of_ble_eq_true ?_; rfl) | omega | exact Or.inl trivial | exact Or.inr trivial | exact Or.inl rfl | exact Or.inr rfl)
        · intro zc48
          with_reducible first | have ze48 := Int64.not_lt.mpr zc48 | have ze48 := zc48
          refine hB bX10_bestPennies_58 _ _ _ _ _ _ _ kX10_bestPennies_58 ?_
          dsimp only [bX10_bestPennies_58, kx_wp, kx_step, kx_lI, kx_lL, kx_lA, kx_gl, kx_pI, kx_pL, kx_pR, kx_pA, kx_pV, kx_s1, kx_s2, kx_sl, kx_pre, kx_c2, kx_pl, kx_cmp, kx_oF, kx_eqN, kx_nil, kx_c1, kx_ft, kx_aI, kx_aL, kx_aR, kx_ln, Nat.reduceAdd, Option.toList, List.cons_append, List.nil_append, cf1_2, cf9_5, cf1_9]
          repeat (simp only [hq, h9, lg_cmp_ge, lg_cmp_le, lg_cmp_gt, lg_cmp_lt, lg_cmp_eq, ks_eq, ks_ss]; try dsimp only [kx_wp, kx_step, kx_lI, kx_lL, kx_lA, kx_gl, kx_pI, kx_pL, kx_pR, kx_pA, kx_pV, kx_s1, kx_s2, kx_sl, kx_pre, kx_c2, kx_pl, kx_cmp, kx_oF, kx_eqN, kx_nil, kx_c1, kx_ft, kx_aI, kx_aL, kx_aR, kx_ln, Nat.reduceAdd, Option.toList, List.cons_append, List.nil_append, cf1_2, cf9_5, cf1_9])
          repeat' apply And.intro
          all_goals try (first | with_reducible assumption | (with_reducible refine ck_nzI ?_; simp; done) | (with_reducible refine ck_nzL ?_; simp; done) | (with_reducible refine vp_in_nI ?_ ?_ <;> first | omega | decide) | (with_reducible refine Nat.le_of_ble_eq_true ?_; rfl) | omega | exact Or.inl trivial | exact Or.inr trivial | exact Or.inl rfl | exact Or.inr rfl)
          rw [cx_pk2 k (by omega)]
          first | (rw [if_pos zc48] at hstep; exact hstep _ _) | (rw [if_neg zc48] at hstep; exact hstep _ _) | (rw [if_pos ze48] at hstep; exact hstep _ _) | (rw [if_neg ze48] at hstep; exact hstep _ _)
        · intro zc48
          with_reducible first | have ze48 := Int64.not_le.mp zc48 | have ze48 := zc48
          refine hB bX10_bestPennies_51 _ _ _ _ _ _ _ kX10_bestPennies_51 ?_
          dsimp only [bX10_bestPennies_51, kx_wp, kx_step, kx_lI, kx_lL, kx_lA, kx_gl, kx_pI, kx_pL, kx_pR, kx_pA, kx_pV, kx_s1, kx_s2, kx_sl, kx_pre, kx_c2, kx_pl, kx_cmp, kx_oF, kx_eqN, kx_nil, kx_c1, kx_ft, kx_aI, kx_aL, kx_aR, kx_ln, Nat.reduceAdd, Option.toList, List.cons_append, List.nil_append, cf1_2, cf9_5, cf1_9]
          repeat (simp only [hq, h9, lg_cmp_ge, lg_cmp_le, lg_cmp_gt, lg_cmp_lt, lg_cmp_eq, ks_eq, ks_ss]; try dsimp only [kx_wp, kx_step, kx_lI, kx_lL, kx_lA, kx_gl, kx_pI, kx_pL, kx_pR, kx_pA, kx_pV, kx_s1, kx_s2, kx_sl, kx_pre, kx_c2, kx_pl, kx_cmp, kx_oF, kx_eqN, kx_nil, kx_c1, kx_ft, kx_aI, kx_aL, kx_aR, kx_ln, Nat.reduceAdd, Option.toList, List.cons_append, List.nil_append, cf1_2, cf9_5, cf1_9])
          repeat' apply And.intro
          all_goals try (first | with_reducible assumption | (with_reducible refine ck_nzI ?_; simp; done) | (with_reducible refine ck_nzL ?_; simp; done) | (with_reducible refine vp_in_nI ?_ ?_ <;> first | omega | decide) | (with_reducible refine Nat.le_of_ble_eq_true ?_; rfl) | omega | exact Or.inl trivial | exact Or.inr trivial | exact Or.inl rfl | exact Or.inr rfl)
          refine hB bX10_bestPennies_58 _ _ _ _ _ _ _ kX10_bestPennies_58 ?_
          dsimp only [bX10_bestPennies_58, kx_wp, kx_step, kx_lI, kx_lL, kx_lA, kx_gl, kx_pI, kx_pL, kx_pR, kx_pA, kx_pV, kx_s1, kx_s2, kx_sl, kx_pre, kx_c2, kx_pl, kx_cmp, kx_oF, kx_eqN, kx_nil, kx_c1, kx_ft, kx_aI, kx_aL, kx_aR, kx_ln, Nat.reduceAdd, Option.toList, List.cons_append, List.nil_append, cf1_2, cf9_5, cf1_9]
          repeat (simp only [hq, h9, lg_cmp_ge, lg_cmp_le, lg_cmp_gt, lg_cmp_lt, lg_cmp_eq, ks_eq, ks_ss]; try dsimp only [kx_wp, kx_step, kx_lI, kx_lL, kx_lA, kx_gl, kx_pI, kx_pL, kx_pR, kx_pA, kx_pV, kx_s1, kx_s2, kx_sl, kx_pre, kx_c2, kx_pl, kx_cmp, kx_oF, kx_eqN, kx_nil, kx_c1, kx_ft, kx_aI, kx_aL, kx_aR, kx_ln, Nat.reduceAdd, Option.toList, List.cons_append, List.nil_append, cf1_2, cf9_5, cf1_9])
          repeat' apply And.intro
          all_goals try (first | with_reducible assumption | (with_reducible refine ck_nzI ?_; simp; done) | (with_reducible refine ck_nzL ?_; simp; done) | (with_reducible refine vp_in_nI ?_ ?_ <;> first | omega | decide) | (with_reducible refine Nat.le_of_ble_eq_true ?_; rfl) | omega | exact Or.inl trivial | exact Or.inr trivial | exact Or.inl rfl | exact Or.inr rfl)
          rw [cx_pk2 k (by omega)]
          first | (rw [if_pos zc48] at hstep; exact hstep _ _) | (rw [if_neg zc48] at hstep; exact hstep _ _) | (rw [if_pos ze48] at hstep; exact hstep _ _) | (rw [if_neg ze48] at hstep; exact hstep _ _)
  refine hB bX10_bestPennies_0 _ _ _ _ _ _ _ kX10_bestPennies_0 ?_
  dsimp only [bX10_bestPennies_0, kx_wp, kx_step, kx_lI, kx_lL, kx_lA, kx_gl, kx_pI, kx_pL, kx_pR, kx_pA, kx_pV, kx_s1, kx_s2, kx_sl, kx_pre, kx_c2, kx_pl, kx_cmp, kx_oF, kx_eqN, kx_nil, kx_c1, kx_ft, kx_aI, kx_aL, kx_aR, kx_ln, Nat.reduceAdd, Option.toList, List.cons_append, List.nil_append, cf1_2, cf9_5, cf1_9]
  repeat (simp only [hq, h9, lg_cmp_ge, lg_cmp_le, lg_cmp_gt, lg_cmp_lt, lg_cmp_eq, ks_eq, ks_ss]; try dsimp only [kx_wp, kx_step, kx_lI, kx_lL, kx_lA, kx_gl, kx_pI, kx_pL, kx_pR, kx_pA, kx_pV, kx_s1, kx_s2, kx_sl, kx_pre, kx_c2, kx_pl, kx_cmp, kx_oF, kx_eqN, kx_nil, kx_c1, kx_ft, kx_aI, kx_aL, kx_aR, kx_ln, Nat.reduceAdd, Option.toList, List.cons_append, List.nil_append, cf1_2, cf9_5, cf1_9])
  repeat' apply And.intro
  all_goals try (first | with_reducible assumption | (with_reducible refine ck_nzI ?_; simp; done) | (with_reducible refine ck_nzL ?_; simp; done) | (with_reducible refine vp_in_nI ?_ ?_ <;> first | omega | decide) | (with_reducible refine Nat.le_of_ble_eq_true ?_; rfl) | omega | exact Or.inl trivial | exact Or.inr trivial | exact Or.inl rfl | exact Or.inr rfl)
  have h0 := fun a b => loop12 41 0 a b (by omega)
  rw [show nI 0 - 20 = (-20 : Int32) by decide] at h0
  exact h0 _ _


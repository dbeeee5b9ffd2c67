def bX10_heard_0 : List kx_O := [(.iload_n 1, 1, 0, 0, .null), (.iload_n 2, 2, 0, 0, .null)]
theorem kX10_heard_0 : kx_oks kxL_X10 false cX10_heard 0 bX10_heard_0 = true := by decide +kernel
def bX10_heard_5 : List kx_O := [(.ifCond .eq 25, 30, 0, 0, .null)]
theorem kX10_heard_5 : kx_oks kxL_X10 false cX10_heard 5 bX10_heard_5 = true := by decide +kernel
def bX10_heard_8 : List kx_O := [(.iload_n 3, 3, 0, 0, .null)]
theorem kX10_heard_8 : kx_oks kxL_X10 false cX10_heard 8 bX10_heard_8 = true := by decide +kernel
def bX10_heard_12 : List kx_O := [(.ifCond .eq 18, 30, 0, 0, .null)]
theorem kX10_heard_12 : kx_oks kxL_X10 false cX10_heard 12 bX10_heard_12 = true := by decide +kernel
def bX10_heard_15 : List kx_O := [(.iload 4, 4, 0, 0, .null), (.ifCond .lt 13, 30, 0, 0, .null)]
theorem kX10_heard_15 : kx_oks kxL_X10 false cX10_heard 15 bX10_heard_15 = true := by decide +kernel
def bX10_heard_20 : List kx_O := [(.iload 4, 4, 0, 0, .null), (.iconst 2, 0, 0, 0, .int 2), (.if_icmp .gt 7, 30, 0, 0, .null)]
theorem kX10_heard_20 : kx_oks kxL_X10 false cX10_heard 20 bX10_heard_20 = true := by decide +kernel
def bX10_heard_26 : List kx_O := [(.iconst 1, 0, 0, 0, .int 1), (.goto 4, 31, 0, 0, .null)]
theorem kX10_heard_26 : kx_oks kxL_X10 false cX10_heard 26 bX10_heard_26 = true := by decide +kernel
def bX10_heard_30 : List kx_O := [(.iconst 0, 0, 0, 0, .int 0)]
theorem kX10_heard_30 : kx_oks kxL_X10 false cX10_heard 30 bX10_heard_30 = true := by decide +kernel
def bX10_heard_34 : List kx_O := [(.aload_n 0, 0, 0, 0, .null), (.getfield 57, 10, 9, 0, .null), (.aload_n 0, 0, 0, 0, .null), (.getfield 40, 10, 6, 0, .null), (.iload_n 1, 1, 0, 0, .null), (.iload_n 2, 2, 0, 0, .null), (.iload_n 3, 3, 0, 0, .null)]
theorem kX10_heard_34 : kx_oks kxL_X10 false cX10_heard 34 bX10_heard_34 = true := by decide +kernel
def bX10_heard_48 : List kx_O := [(.iload 4, 4, 0, 0, .null), (.ifCond .ne 11, 61, 0, 0, .null)]
theorem kX10_heard_48 : kx_oks kxL_X10 false cX10_heard 48 bX10_heard_48 = true := by decide +kernel
def bX10_heard_53 : List kx_O := [(.aload_n 0, 0, 0, 0, .null), (.getfield 57, 10, 9, 0, .null), (.getfield 243, 7, 7, 0, .null), (.ireturn, 0, 0, 0, .null)]
theorem kX10_heard_53 : kx_oks kxL_X10 false cX10_heard 53 bX10_heard_53 = true := by decide +kernel
def bX10_heard_61 : List kx_O := [(.iload 4, 4, 0, 0, .null), (.iconst 1, 0, 0, 0, .int 1), (.if_icmp .ne 13, 77, 0, 0, .null)]
theorem kX10_heard_61 : kx_oks kxL_X10 false cX10_heard 61 bX10_heard_61 = true := by decide +kernel
def bX10_heard_67 : List kx_O := [(.aload_n 0, 0, 0, 0, .null), (.getfield 57, 10, 9, 0, .null)]
theorem kX10_heard_67 : kx_oks kxL_X10 false cX10_heard 67 bX10_heard_67 = true := by decide +kernel
def bX10_heard_74 : List kx_O := [(.goto 10, 84, 0, 0, .null)]
theorem kX10_heard_74 : kx_oks kxL_X10 false cX10_heard 74 bX10_heard_74 = true := by decide +kernel
def bX10_heard_77 : List kx_O := [(.aload_n 0, 0, 0, 0, .null), (.getfield 57, 10, 9, 0, .null), (.getfield 249, 7, 8, 0, .null)]
theorem kX10_heard_77 : kx_oks kxL_X10 false cX10_heard 77 bX10_heard_77 = true := by decide +kernel
def bX10_heard_84 : List kx_O := [(.ireturn, 0, 0, 0, .null)]
theorem kX10_heard_84 : kx_oks kxL_X10 false cX10_heard 84 bX10_heard_84 = true := by decide +kernel
theorem dX10_heard_2 : decode cX10_heard 2 = .ok (.invokestatic 111, 3) := by decide +kernel
theorem dX10_heard_9 : decode cX10_heard 9 = .ok (.invokestatic 236, 3) := by decide +kernel
theorem dX10_heard_31 : decode cX10_heard 31 = .ok (.invokestatic 95, 3) := by decide +kernel
theorem dX10_heard_45 : decode cX10_heard 45 = .ok (.invokevirtual 239, 3) := by decide +kernel
theorem dX10_heard_71 : decode cX10_heard 71 = .ok (.invokevirtual 246, 3) := by decide +kernel
set_option maxRecDepth 100000 in
set_option maxHeartbeats 4000000 in
theorem ct_X10_heard_0 (l : Launch) (G : kx_G) {P : kx_P} {sz : Nat} {sv : Value} {K : Nat → Int32} (h64 : P 64 = kO 10 (kf (cr10 sv) K)) {Fs X Y : Nat → Int32} (hO : P 71 = kO 7 (kf cr7 Fs)) (h76 : P 76 = kI 0 120 X) (h77 : P 77 = kI 0 120 Y) {q1 q2 q3 q4 : Nat → Int32} (hS : cx_SR P q1 q2 q3 q4) {sd cl : Nat} (h4 : Fs 4 = nI sd) (hsd : sd < 2 ^ 29) (hcl : cl ≤ 8) {cn wn : Nat → Nat} {DD : Nat → Int64} {HH : Nat → Value} {CC VV : Nat → Nat → Int32} (hCS : cx_CS P cl cn wn DD HH CC VV) (hso : cx_SO q1 q2 q3 q4 CC sd cl) {x y : Nat} (hx : x ≤ 99) (hy : y ≤ 99) (hip : cx_ip (nI x) (nI y) = 1) {mi : Nat} (hmi : mi ≤ 100000) (him : cx_im (nI mi) = 1)  : kx_M l G sX10_heard 5 0 0 [.ref 64, .int (nI x), .int (nI y), .int (nI mi), .int (0)] P sz (some (.int ((cx_li CC VV q1 q2 q3 q4 (nI x) (nI y) (nI mi) sd).1))) (sW P (upd (upd Fs 7 (cx_li CC VV q1 q2 q3 q4 (nI x) (nI y) (nI mi) sd).1) 8 (cx_li CC VV q1 q2 q3 q4 (nI x) (nI y) (nI mi) sd).2) (cx_lo CC VV q1 q2 q3 q4 (nI x) (nI y) (nI mi) sd X Y (min sd 200)).1 (cx_lo CC VV q1 q2 q3 q4 (nI x) (nI y) (nI mi) sd X Y (min sd 200)).2) sz := by
  have hSW : sW P Fs X Y = P := by unfold sW; rw [ks_id h76, ks_id h77, ks_id hO]
  have hm9 := ct_X7_listen l G (sz := sz) (F := Fs) (X := X) (Y := Y) hS h4 hsd hcl hCS hso hx hy (m := mi) (by omega)
  rw [hSW] at hm9
  have h64s : ∀ F X Y, sW P F X Y 64 = kO 10 (kf (cr10 sv) K) := fun _ _ _ => (sW_o (by decide) (by decide) (by decide)).trans h64
  have e7 : (upd (upd Fs 7 (cx_li CC VV q1 q2 q3 q4 (nI x) (nI y) (nI mi) sd).1) 8 (cx_li CC VV q1 q2 q3 q4 (nI x) (nI y) (nI mi) sd).2) 7 = (cx_li CC VV q1 q2 q3 q4 (nI x) (nI y) (nI mi) sd).1 := rfl
  have e8 : (upd (upd Fs 7 (cx_li CC VV q1 q2 q3 q4 (nI x) (nI y) (nI mi) sd).1) 8 (cx_li CC VV q1 q2 q3 q4 (nI x) (nI y) (nI mi) sd).2) 8 = (cx_li CC VV q1 q2 q3 q4 (nI x) (nI y) (nI mi) sd).2 := rfl
  refine kx_mk kx_tab kxLok_X10 (ini := false) [some (.ref 64), some (.int (nI x)), some (.int (nI y)), some (.int (nI mi)), some (.int (0))] ⟨by decide, rfl, by decide, by decide⟩ (⟨_, rfl⟩) rfl rfl (fun g hB hC => ?_)
  refine hB bX10_heard_0 _ _ _ _ _ _ _ kX10_heard_0 ?_
  dsimp only [bX10_heard_0, kx_wp, kx_step, kx_lI, kx_lL, kx_lA, kx_gl, kx_pI, kx_pL, kx_pR, kx_pA, kx_pV, kx_s1, kx_s2, kx_sl, kx_pre, kx_c2, kx_pl, kx_cmp, kx_oF, kx_eqN, kx_nil, kx_c1, kx_ft, kx_aI, kx_aL, kx_aR, kx_ln, Nat.reduceAdd, Option.toList, List.cons_append, List.nil_append, cf10_9, cf10_6, cf7_7, cf7_8]
  repeat (simp only [h64, h64s, hO, hip, him, sW_71, e7, e8, ks_eq, ks_ss]; try dsimp only [kx_wp, kx_step, kx_lI, kx_lL, kx_lA, kx_gl, kx_pI, kx_pL, kx_pR, kx_pA, kx_pV, kx_s1, kx_s2, kx_sl, kx_pre, kx_c2, kx_pl, kx_cmp, kx_oF, kx_eqN, kx_nil, kx_c1, kx_ft, kx_aI, kx_aL, kx_aR, kx_ln, Nat.reduceAdd, Option.toList, List.cons_append, List.nil_append, cf10_9, cf10_6, cf7_7, cf7_8])
  repeat' apply And.intro
  all_goals try (first | with_reducible assumption | (with_reducible refine ck_nzI ?_; simp; done) | (with_reducible refine ck_nzL ?_; simp; done) | (with_reducible refine vp_in_nI ?_ ?_ <;> first | omega | decide) | (with_reducible refine Nat.le_of_ble_eq_true ?_; rfl) | omega | exact Or.inl trivial | exact Or.inr trivial | exact Or.inl rfl | exact Or.inr rfl)
  refine hC.2.1 111 _ _ _ _ _ _ _ _ _ _ _ _ _ _ _ _ _ lX10_111 (ct_X10_isPlace l G) rfl rfl (Nat.le_of_ble_eq_true rfl) (by first | decide | omega) (by decide) (by omega) (by omega) dX10_heard_2 ?_
  rw [hip]
  refine hB bX10_heard_5 _ _ _ _ _ _ _ kX10_heard_5 ?_
  dsimp only [bX10_heard_5, kx_wp, kx_step, kx_lI, kx_lL, kx_lA, kx_gl, kx_pI, kx_pL, kx_pR, kx_pA, kx_pV, kx_s1, kx_s2, kx_sl, kx_pre, kx_c2, kx_pl, kx_cmp, kx_oF, kx_eqN, kx_nil, kx_c1, kx_ft, kx_aI, kx_aL, kx_aR, kx_ln, Nat.reduceAdd, Option.toList, List.cons_append, List.nil_append, cf10_9, cf10_6, cf7_7, cf7_8]
  repeat (simp only [h64, h64s, hO, hip, him, sW_71, e7, e8, ks_eq, ks_ss]; try dsimp only [kx_wp, kx_step, kx_lI, kx_lL, kx_lA, kx_gl, kx_pI, kx_pL, kx_pR, kx_pA, kx_pV, kx_s1, kx_s2, kx_sl, kx_pre, kx_c2, kx_pl, kx_cmp, kx_oF, kx_eqN, kx_nil, kx_c1, kx_ft, kx_aI, kx_aL, kx_aR, kx_ln, Nat.reduceAdd, Option.toList, List.cons_append, List.nil_append, cf10_9, cf10_6, cf7_7, cf7_8])
  repeat' apply And.intro
  all_goals try (first | with_reducible assumption | (with_reducible refine ck_nzI ?_; simp; done) | (with_reducible refine ck_nzL ?_; simp; done) | (with_reducible refine vp_in_nI ?_ ?_ <;> first | omega | decide) | (with_reducible refine Nat.le_of_ble_eq_true ?_; rfl) | omega | exact Or.inl trivial | exact Or.inr trivial | exact Or.inl rfl | exact Or.inr rfl)
  · intro zc5
    first | exact absurd rfl zc5 | exact absurd zc5 (by decide) | exact absurd (by decide) zc5 | (exfalso; first | exact absurd zc5 (by decide) | exact absurd zc12 (by decide) | exact absurd zc17 (by decide) | exact absurd zc23 (by decide) | exact absurd zc50 (by decide) | exact absurd zc64 (by decide) | exact zc50 rfl | exact zc64 rfl) | (exfalso; simp_all; done)
  · intro zc5
    have ze5 := zc5
    refine hB bX10_heard_8 _ _ _ _ _ _ _ kX10_heard_8 ?_
    dsimp only [bX10_heard_8, kx_wp, kx_step, kx_lI, kx_lL, kx_lA, kx_gl, kx_pI, kx_pL, kx_pR, kx_pA, kx_pV, kx_s1, kx_s2, kx_sl, kx_pre, kx_c2, kx_pl, kx_cmp, kx_oF, kx_eqN, kx_nil, kx_c1, kx_ft, kx_aI, kx_aL, kx_aR, kx_ln, Nat.reduceAdd, Option.toList, List.cons_append, List.nil_append, cf10_9, cf10_6, cf7_7, cf7_8]
    repeat (simp only [h64, h64s, hO, hip, him, sW_71, e7, e8, ks_eq, ks_ss]; try dsimp only [kx_wp, kx_step, kx_lI, kx_lL, kx_lA, kx_gl, kx_pI, kx_pL, kx_pR, kx_pA, kx_pV, kx_s1, kx_s2, kx_sl, kx_pre, kx_c2, kx_pl, kx_cmp, kx_oF, kx_eqN, kx_nil, kx_c1, kx_ft, kx_aI, kx_aL, kx_aR, kx_ln, Nat.reduceAdd, Option.toList, List.cons_append, List.nil_append, cf10_9, cf10_6, cf7_7, cf7_8])
    repeat' apply And.intro
    all_goals try (first | with_reducible assumption | (with_reducible refine ck_nzI ?_; simp; done) | (with_reducible refine ck_nzL ?_; simp; done) | (with_reducible refine vp_in_nI ?_ ?_ <;> first | omega | decide) | (with_reducible refine Nat.le_of_ble_eq_true ?_; rfl) | omega | exact Or.inl trivial | exact Or.inr trivial | exact Or.inl rfl | exact Or.inr rfl)
    refine hC.2.1 236 _ _ _ _ _ _ _ _ _ _ _ _ _ _ _ _ _ lX10_236 (ct_X10_isMinute l G) rfl rfl (Nat.le_of_ble_eq_true rfl) (by first | decide | omega) (by decide) (by omega) (by omega) dX10_heard_9 ?_
    rw [him]
    refine hB bX10_heard_12 _ _ _ _ _ _ _ kX10_heard_12 ?_
    dsimp only [bX10_heard_12, kx_wp, kx_step, kx_lI, kx_lL, kx_lA, kx_gl, kx_pI, kx_pL, kx_pR, kx_pA, kx_pV, kx_s1, kx_s2, kx_sl, kx_pre, kx_c2, kx_pl, kx_cmp, kx_oF, kx_eqN, kx_nil, kx_c1, kx_ft, kx_aI, kx_aL, kx_aR, kx_ln, Nat.reduceAdd, Option.toList, List.cons_append, List.nil_append, cf10_9, cf10_6, cf7_7, cf7_8]
    repeat (simp only [h64, h64s, hO, hip, him, sW_71, e7, e8, ks_eq, ks_ss]; try dsimp only [kx_wp, kx_step, kx_lI, kx_lL, kx_lA, kx_gl, kx_pI, kx_pL, kx_pR, kx_pA, kx_pV, kx_s1, kx_s2, kx_sl, kx_pre, kx_c2, kx_pl, kx_cmp, kx_oF, kx_eqN, kx_nil, kx_c1, kx_ft, kx_aI, kx_aL, kx_aR, kx_ln, Nat.reduceAdd, Option.toList, List.cons_append, List.nil_append, cf10_9, cf10_6, cf7_7, cf7_8])
    repeat' apply And.intro
    all_goals try (first | with_reducible assumption | (with_reducible refine ck_nzI ?_; simp; done) | (with_reducible refine ck_nzL ?_; simp; done) | (with_reducible refine vp_in_nI ?_ ?_ <;> first | omega | decide) | (with_reducible refine Nat.le_of_ble_eq_true ?_; rfl) | omega | exact Or.inl trivial | exact Or.inr trivial | exact Or.inl rfl | exact Or.inr rfl)
    · intro zc12
      first | exact absurd rfl zc12 | exact absurd zc12 (by decide) | exact absurd (by decide) zc12 | (exfalso; first | exact absurd zc5 (by decide) | exact absurd zc12 (by decide) | exact absurd zc17 (by decide) | exact absurd zc23 (by decide) | exact absurd zc50 (by decide) | exact absurd zc64 (by decide) | exact zc50 rfl | exact zc64 rfl) | (exfalso; simp_all; done)
    · intro zc12
      have ze12 := zc12
      refine hB bX10_heard_15 _ _ _ _ _ _ _ kX10_heard_15 ?_
      dsimp only [bX10_heard_15, kx_wp, kx_step, kx_lI, kx_lL, kx_lA, kx_gl, kx_pI, kx_pL, kx_pR, kx_pA, kx_pV, kx_s1, kx_s2, kx_sl, kx_pre, kx_c2, kx_pl, kx_cmp, kx_oF, kx_eqN, kx_nil, kx_c1, kx_ft, kx_aI, kx_aL, kx_aR, kx_ln, Nat.reduceAdd, Option.toList, List.cons_append, List.nil_append, cf10_9, cf10_6, cf7_7, cf7_8]
      repeat (simp only [h64, h64s, hO, hip, him, sW_71, e7, e8, ks_eq, ks_ss]; try dsimp only [kx_wp, kx_step, kx_lI, kx_lL, kx_lA, kx_gl, kx_pI, kx_pL, kx_pR, kx_pA, kx_pV, kx_s1, kx_s2, kx_sl, kx_pre, kx_c2, kx_pl, kx_cmp, kx_oF, kx_eqN, kx_nil, kx_c1, kx_ft, kx_aI, kx_aL, kx_aR, kx_ln, Nat.reduceAdd, Option.toList, List.cons_append, List.nil_append, cf10_9, cf10_6, cf7_7, cf7_8])
      repeat' apply And.intro
      all_goals try (first | with_reducible assumption | (with_reducible refine ck_nzI ?_; simp; done) | (with_reducible refine ck_nzL ?_; simp; done) | (with_reducible refine vp_in_nI ?_ ?_ <;> first | omega | decide) | (with_reducible refine Nat.le_of_ble_eq_true ?_; rfl) | omega | exact Or.inl trivial | exact Or.inr trivial | exact Or.inl rfl | exact Or.inr rfl)
      · intro zc17
        first | exact absurd rfl zc17 | exact absurd zc17 (by decide) | exact absurd (by decide) zc17 | (exfalso; first | exact absurd zc5 (by decide) | exact absurd zc12 (by decide) | exact absurd zc17 (by decide) | exact absurd zc23 (by decide) | exact absurd zc50 (by decide) | exact absurd zc64 (by decide) | exact zc50 rfl | exact zc64 rfl) | (exfalso; simp_all; done)
      · intro zc17
        with_reducible first | have ze17 := Int32.not_lt.mp zc17 | have ze17 := zc17
        refine hB bX10_heard_20 _ _ _ _ _ _ _ kX10_heard_20 ?_
        dsimp only [bX10_heard_20, kx_wp, kx_step, kx_lI, kx_lL, kx_lA, kx_gl, kx_pI, kx_pL, kx_pR, kx_pA, kx_pV, kx_s1, kx_s2, kx_sl, kx_pre, kx_c2, kx_pl, kx_cmp, kx_oF, kx_eqN, kx_nil, kx_c1, kx_ft, kx_aI, kx_aL, kx_aR, kx_ln, Nat.reduceAdd, Option.toList, List.cons_append, List.nil_append, cf10_9, cf10_6, cf7_7, cf7_8]
        repeat (simp only [h64, h64s, hO, hip, him, sW_71, e7, e8, ks_eq, ks_ss]; try dsimp only [kx_wp, kx_step, kx_lI, kx_lL, kx_lA, kx_gl, kx_pI, kx_pL, kx_pR, kx_pA, kx_pV, kx_s1, kx_s2, kx_sl, kx_pre, kx_c2, kx_pl, kx_cmp, kx_oF, kx_eqN, kx_nil, kx_c1, kx_ft, kx_aI, kx_aL, kx_aR, kx_ln, Nat.reduceAdd, Option.toList, List.cons_append, List.nil_append, cf10_9, cf10_6, cf7_7, cf7_8])
        repeat' apply And.intro
        all_goals try (first | with_reducible assumption | (with_reducible refine ck_nzI ?_; simp; done) | (with_reducible refine ck_nzL ?_; simp; done) | (with_reducible refine vp_in_nI ?_ ?_ <;> first | omega | decide) | (with_reducible refine Nat.le_of_ble_eq_true ?_; rfl) | omega | exact Or.inl trivial | exact Or.inr trivial | exact Or.inl rfl | exact Or.inr rfl)
        · intro zc23
          first | exact absurd rfl zc23 | exact absurd zc23 (by decide) | exact absurd (by decide) zc23 | (exfalso; first | exact absurd zc5 (by decide) | exact absurd zc12 (by decide) | exact absurd zc17 (by decide) | exact absurd zc23 (by decide) | exact absurd zc50 (by decide) | exact absurd zc64 (by decide) | exact zc50 rfl | exact zc64 rfl) | (exfalso; simp_all; done)
        · intro zc23
          with_reducible first | have ze23 := Int32.not_lt.mp zc23 | have ze23 := zc23
          refine hB bX10_heard_26 _ _ _ _ _ _ _ kX10_heard_26 ?_
          dsimp only [bX10_heard_26, kx_wp, kx_step, kx_lI, kx_lL, kx_lA, kx_gl, kx_pI, kx_pL, kx_pR, kx_pA, kx_pV, kx_s1, kx_s2, kx_sl, kx_pre, kx_c2, kx_pl, kx_cmp, kx_oF, kx_eqN, kx_nil, kx_c1, kx_ft, kx_aI, kx_aL, kx_aR, kx_ln, Nat.reduceAdd, Option.toList, List.cons_append, List.nil_append, cf10_9, cf10_6, cf7_7, cf7_8]
          repeat (simp only [h64, h64s, hO, hip, him, sW_71, e7, e8, ks_eq, ks_ss]; try dsimp only [kx_wp, kx_step, kx_lI, kx_lL, kx_lA, kx_gl, kx_pI, kx_pL, kx_pR, kx_pA, kx_pV, kx_s1, kx_s2, kx_sl, kx_pre, kx_c2, kx_pl, kx_cmp, kx_oF, kx_eqN, kx_nil, kx_c1, kx_ft, kx_aI, kx_aL, kx_aR, kx_ln, Nat.reduceAdd, Option.toList, List.cons_append, List.nil_append, cf10_9, cf10_6, cf7_7, cf7_8])
          repeat' apply And.intro
          all_goals try (first | with_reducible assumption | (with_reducible refine ck_nzI ?_; simp; done) | (with_reducible refine ck_nzL ?_; simp; done) | (with_reducible refine vp_in_nI ?_ ?_ <;> first | omega | decide) | (with_reducible refine Nat.le_of_ble_eq_true ?_; rfl) | omega | exact Or.inl trivial | exact Or.inr trivial | exact Or.inl rfl | exact Or.inr rfl)
          refine hC.2.1 95 _ _ _ _ _ _ _ _ _ _ _ _ _ _ _ _ _ lX10_95 (ct_X10_need l G (b := 1) (by decide)) rfl rfl (Nat.le_of_ble_eq_true rfl) (by first | decide | omega) (by decide) (by omega) (by omega) dX10_heard_31 ?_
          refine hB bX10_heard_34 _ _ _ _ _ _ _ kX10_heard_34 ?_
          dsimp only [bX10_heard_34, kx_wp, kx_step, kx_lI, kx_lL, kx_lA, kx_gl, kx_pI, kx_pL, kx_pR, kx_pA, kx_pV, kx_s1, kx_s2, kx_sl, kx_pre, kx_c2, kx_pl, kx_cmp, kx_oF, kx_eqN, kx_nil, kx_c1, kx_ft, kx_aI, kx_aL, kx_aR, kx_ln, Nat.reduceAdd, Option.toList, List.cons_append, List.nil_append, cf10_9, cf10_6, cf7_7, cf7_8]
          repeat (simp only [h64, h64s, hO, hip, him, sW_71, e7, e8, ks_eq, ks_ss]; try dsimp only [kx_wp, kx_step, kx_lI, kx_lL, kx_lA, kx_gl, kx_pI, kx_pL, kx_pR, kx_pA, kx_pV, kx_s1, kx_s2, kx_sl, kx_pre, kx_c2, kx_pl, kx_cmp, kx_oF, kx_eqN, kx_nil, kx_c1, kx_ft, kx_aI, kx_aL, kx_aR, kx_ln, Nat.reduceAdd, Option.toList, List.cons_append, List.nil_append, cf10_9, cf10_6, cf7_7, cf7_8])
          repeat' apply And.intro
          all_goals try (first | with_reducible assumption | (with_reducible refine ck_nzI ?_; simp; done) | (with_reducible refine ck_nzL ?_; simp; done) | (with_reducible refine vp_in_nI ?_ ?_ <;> first | omega | decide) | (with_reducible refine Nat.le_of_ble_eq_true ?_; rfl) | omega | exact Or.inl trivial | exact Or.inr trivial | exact Or.inl rfl | exact Or.inr rfl)
          refine hC.1 239 _ _ _ _ _ _ _ 7 _ _ _ _ _ _ _ _ _ _ _ _ lX10_239 (hm9) ⟨by decide, rfl⟩ (hO) rfl rfl (Nat.le_of_ble_eq_true rfl) (by first | decide | omega) (by decide) (by omega) (by omega) dX10_heard_45 ?_
          refine hB bX10_heard_48 _ _ _ _ _ _ _ kX10_heard_48 ?_
          dsimp only [bX10_heard_48, kx_wp, kx_step, kx_lI, kx_lL, kx_lA, kx_gl, kx_pI, kx_pL, kx_pR, kx_pA, kx_pV, kx_s1, kx_s2, kx_sl, kx_pre, kx_c2, kx_pl, kx_cmp, kx_oF, kx_eqN, kx_nil, kx_c1, kx_ft, kx_aI, kx_aL, kx_aR, kx_ln, Nat.reduceAdd, Option.toList, List.cons_append, List.nil_append, cf10_9, cf10_6, cf7_7, cf7_8]
          repeat (simp only [h64, h64s, hO, hip, him, sW_71, e7, e8, ks_eq, ks_ss]; try dsimp only [kx_wp, kx_step, kx_lI, kx_lL, kx_lA, kx_gl, kx_pI, kx_pL, kx_pR, kx_pA, kx_pV, kx_s1, kx_s2, kx_sl, kx_pre, kx_c2, kx_pl, kx_cmp, kx_oF, kx_eqN, kx_nil, kx_c1, kx_ft, kx_aI, kx_aL, kx_aR, kx_ln, Nat.reduceAdd, Option.toList, List.cons_append, List.nil_append, cf10_9, cf10_6, cf7_7, cf7_8])
          repeat' apply And.intro
          all_goals try (first | with_reducible assumption | (with_reducible refine ck_nzI ?_; simp; done) | (with_reducible refine ck_nzL ?_; simp; done) | (with_reducible refine vp_in_nI ?_ ?_ <;> first | omega | decide) | (with_reducible refine Nat.le_of_ble_eq_true ?_; rfl) | omega | exact Or.inl trivial | exact Or.inr trivial | exact Or.inl rfl | exact Or.inr rfl)
          · intro zc50
            first | exact absurd rfl zc50 | exact absurd zc50 (by decide) | exact absurd (by decide) zc50 | (exfalso; first | exact absurd zc5 (by decide) | exact absurd zc12 (by decide) | exact absurd zc17 (by decide) | exact absurd zc23 (by decide) | exact absurd zc50 (by decide) | exact absurd zc64 (by decide) | exact zc50 rfl | exact zc64 rfl) | (exfalso; simp_all; done)
          · intro zc50
            with_reducible first | have ze50 := Decidable.not_not.mp zc50 | have ze50 := zc50
            refine hB bX10_heard_53 _ _ _ _ _ _ _ kX10_heard_53 ?_
            dsimp only [bX10_heard_53, kx_wp, kx_step, kx_lI, kx_lL, kx_lA, kx_gl, kx_pI, kx_pL, kx_pR, kx_pA, kx_pV, kx_s1, kx_s2, kx_sl, kx_pre, kx_c2, kx_pl, kx_cmp, kx_oF, kx_eqN, kx_nil, kx_c1, kx_ft, kx_aI, kx_aL, kx_aR, kx_ln, Nat.reduceAdd, Option.toList, List.cons_append, List.nil_append, cf10_9, cf10_6, cf7_7, cf7_8]
            repeat (simp only [h64, h64s, hO, hip, him, sW_71, e7, e8, ks_eq, ks_ss]; try dsimp only [kx_wp, kx_step, kx_lI, kx_lL, kx_lA, kx_gl, kx_pI, kx_pL, kx_pR, kx_pA, kx_pV, kx_s1, kx_s2, kx_sl, kx_pre, kx_c2, kx_pl, kx_cmp, kx_oF, kx_eqN, kx_nil, kx_c1, kx_ft, kx_aI, kx_aL, kx_aR, kx_ln, Nat.reduceAdd, Option.toList, List.cons_append, List.nil_append, cf10_9, cf10_6, cf7_7, cf7_8])
            all_goals (repeat' apply And.intro)
            all_goals ((try clear hB hC); first | exact True.intro | with_reducible rfl | with_reducible assumption | (with_reducible refine vp_in_nI ?_ ?_ <;> first | omega | decide) | exact Nat.le_of_ble_eq_true rfl | (with_reducible refine ck_nzI ?_; simp; done) | (with_reducible refine ck_nzL ?_; simp; done) | (simp only [pk_us, pk_uLs, ze5, ze12, zc17, ze17, zc23, ze23, eq_true ze50, ↓reduceIte, not_true_eq_false, not_false_eq_true]; done) | (simp only [ze5, ze12, zc17, ze17, zc23, ze23, eq_true ze50, ↓reduceIte, not_true_eq_false, not_false_eq_true]; with_reducible rfl) | omega | skip)

set_option maxRecDepth 100000 in
set_option maxHeartbeats 4000000 in
theorem ct_X10_heard_1 (l : Launch) (G : kx_G) {P : kx_P} {sz : Nat} {sv : Value} {K : Nat → Int32} (h64 : P 64 = kO 10 (kf (cr10 sv) K)) {Fs X Y : Nat → Int32} (hO : P 71 = kO 7 (kf cr7 Fs)) (h76 : P 76 = kI 0 120 X) (h77 : P 77 = kI 0 120 Y) {q1 q2 q3 q4 : Nat → Int32} (hS : cx_SR P q1 q2 q3 q4) {sd cl : Nat} (h4 : Fs 4 = nI sd) (hsd : sd < 2 ^ 29) (hcl : cl ≤ 8) {cn wn : Nat → Nat} {DD : Nat → Int64} {HH : Nat → Value} {CC VV : Nat → Nat → Int32} (hCS : cx_CS P cl cn wn DD HH CC VV) (hso : cx_SO q1 q2 q3 q4 CC sd cl) {x y : Nat} (hx : x ≤ 99) (hy : y ≤ 99) (hip : cx_ip (nI x) (nI y) = 1) {mi : Nat} (hmi : mi ≤ 100000) (him : cx_im (nI mi) = 1)  : kx_M l G sX10_heard 5 0 0 [.ref 64, .int (nI x), .int (nI y), .int (nI mi), .int (1)] P sz (some (.int (if (cx_li CC VV q1 q2 q3 q4 (nI x) (nI y) (nI mi) sd).1 = 0 then 0 else ck_us (cx_li CC VV q1 q2 q3 q4 (nI x) (nI y) (nI mi) sd).1))) (sW P (upd (upd Fs 7 (cx_li CC VV q1 q2 q3 q4 (nI x) (nI y) (nI mi) sd).1) 8 (cx_li CC VV q1 q2 q3 q4 (nI x) (nI y) (nI mi) sd).2) (cx_lo CC VV q1 q2 q3 q4 (nI x) (nI y) (nI mi) sd X Y (min sd 200)).1 (cx_lo CC VV q1 q2 q3 q4 (nI x) (nI y) (nI mi) sd X Y (min sd 200)).2) sz := by
  have hSW : sW P Fs X Y = P := by unfold sW; rw [ks_id h76, ks_id h77, ks_id hO]
  have hm9 := ct_X7_listen l G (sz := sz) (F := Fs) (X := X) (Y := Y) hS h4 hsd hcl hCS hso hx hy (m := mi) (by omega)
  rw [hSW] at hm9
  have h64s : ∀ F X Y, sW P F X Y 64 = kO 10 (kf (cr10 sv) K) := fun _ _ _ => (sW_o (by decide) (by decide) (by decide)).trans h64
  have e7 : (upd (upd Fs 7 (cx_li CC VV q1 q2 q3 q4 (nI x) (nI y) (nI mi) sd).1) 8 (cx_li CC VV q1 q2 q3 q4 (nI x) (nI y) (nI mi) sd).2) 7 = (cx_li CC VV q1 q2 q3 q4 (nI x) (nI y) (nI mi) sd).1 := rfl
  have e8 : (upd (upd Fs 7 (cx_li CC VV q1 q2 q3 q4 (nI x) (nI y) (nI mi) sd).1) 8 (cx_li CC VV q1 q2 q3 q4 (nI x) (nI y) (nI mi) sd).2) 8 = (cx_li CC VV q1 q2 q3 q4 (nI x) (nI y) (nI mi) sd).2 := rfl
  refine kx_mk kx_tab kxLok_X10 (ini := false) [some (.ref 64), some (.int (nI x)), some (.int (nI y)), some (.int (nI mi)), some (.int (1))] ⟨by decide, rfl, by decide, by decide⟩ (⟨_, rfl⟩) rfl rfl (fun g hB hC => ?_)
  refine hB bX10_heard_0 _ _ _ _ _ _ _ kX10_heard_0 ?_
  dsimp only [bX10_heard_0, kx_wp, kx_step, kx_lI, kx_lL, kx_lA, kx_gl, kx_pI, kx_pL, kx_pR, kx_pA, kx_pV, kx_s1, kx_s2, kx_sl, kx_pre, kx_c2, kx_pl, kx_cmp, kx_oF, kx_eqN, kx_nil, kx_c1, kx_ft, kx_aI, kx_aL, kx_aR, kx_ln, Nat.reduceAdd, Option.toList, List.cons_append, List.nil_append, cf10_9, cf10_6, cf7_7, cf7_8]
  repeat (simp only [h64, h64s, hO, hip, him, sW_71, e7, e8, ks_eq, ks_ss]; try dsimp only [kx_wp, kx_step, kx_lI, kx_lL, kx_lA, kx_gl, kx_pI, kx_pL, kx_pR, kx_pA, kx_pV, kx_s1, kx_s2, kx_sl, kx_pre, kx_c2, kx_pl, kx_cmp, kx_oF, kx_eqN, kx_nil, kx_c1, kx_ft, kx_aI, kx_aL, kx_aR, kx_ln, Nat.reduceAdd, Option.toList, List.cons_append, List.nil_append, cf10_9, cf10_6, cf7_7, cf7_8])
  repeat' apply And.intro
  all_goals try (first | with_reducible assumption | (with_reducible refine ck_nzI ?_; simp; done) | (with_reducible refine ck_nzL ?_; simp; done) | (with_reducible refine vp_in_nI ?_ ?_ <;> first | omega | decide) | (with_reducible refine Nat.le_of_ble_eq_true ?_; rfl) | omega | exact Or.inl trivial | exact Or.inr trivial | exact Or.inl rfl | exact Or.inr rfl)
  refine hC.2.1 111 _ _ _ _ _ _ _ _ _ _ _ _ _ _ _ _ _ lX10_111 (ct_X10_isPlace l G) rfl rfl (Nat.le_of_ble_eq_true rfl) (by first | decide | omega) (by decide) (by omega) (by omega) dX10_heard_2 ?_
  rw [hip]
  refine hB bX10_heard_5 _ _ _ _ _ _ _ kX10_heard_5 ?_
  dsimp only [bX10_heard_5, kx_wp, kx_step, kx_lI, kx_lL, kx_lA, kx_gl, kx_pI, kx_pL, kx_pR, kx_pA, kx_pV, kx_s1, kx_s2, kx_sl, kx_pre, kx_c2, kx_pl, kx_cmp, kx_oF, kx_eqN, kx_nil, kx_c1, kx_ft, kx_aI, kx_aL, kx_aR, kx_ln, Nat.reduceAdd, Option.toList, List.cons_append, List.nil_append, cf10_9, cf10_6, cf7_7, cf7_8]
  repeat (simp only [h64, h64s, hO, hip, him, sW_71, e7, e8, ks_eq, ks_ss]; try dsimp only [kx_wp, kx_step, kx_lI, kx_lL, kx_lA, kx_gl, kx_pI, kx_pL, kx_pR, kx_pA, kx_pV, kx_s1, kx_s2, kx_sl, kx_pre, kx_c2, kx_pl, kx_cmp, kx_oF, kx_eqN, kx_nil, kx_c1, kx_ft, kx_aI, kx_aL, kx_aR, kx_ln, Nat.reduceAdd, Option.toList, List.cons_append, List.nil_append, cf10_9, cf10_6, cf7_7, cf7_8])
  repeat' apply And.intro
  all_goals try (first | with_reducible assumption | (with_reducible refine ck_nzI ?_; simp; done) | (with_reducible refine ck_nzL ?_; simp; done) | (with_reducible refine vp_in_nI ?_ ?_ <;> first | omega | decide) | (with_reducible refine Nat.le_of_ble_eq_true ?_; rfl) | omega | exact Or.inl trivial | exact Or.inr trivial | exact Or.inl rfl | exact Or.inr rfl)
  · intro zc5
    first | exact absurd rfl zc5 | exact absurd zc5 (by decide) | exact absurd (by decide) zc5 | (exfalso; first | exact absurd zc5 (by decide) | exact absurd zc12 (by decide) | exact absurd zc17 (by decide) | exact absurd zc23 (by decide) | exact absurd zc50 (by decide) | exact absurd zc64 (by decide) | exact zc50 rfl | exact zc64 rfl) | (exfalso; simp_all; done)
  · intro zc5
    have ze5 := zc5
    refine hB bX10_heard_8 _ _ _ _ _ _ _ kX10_heard_8 ?_
    dsimp only [bX10_heard_8, kx_wp, kx_step, kx_lI, kx_lL, kx_lA, kx_gl, kx_pI, kx_pL, kx_pR, kx_pA, kx_pV, kx_s1, kx_s2, kx_sl, kx_pre, kx_c2, kx_pl, kx_cmp, kx_oF, kx_eqN, kx_nil, kx_c1, kx_ft, kx_aI, kx_aL, kx_aR, kx_ln, Nat.reduceAdd, Option.toList, List.cons_append, List.nil_append, cf10_9, cf10_6, cf7_7, cf7_8]
    repeat (simp only [h64, h64s, hO, hip, him, sW_71, e7, e8, ks_eq, ks_ss]; try dsimp only [kx_wp, kx_step, kx_lI, kx_lL, kx_lA, kx_gl, kx_pI, kx_pL, kx_pR, kx_pA, kx_pV, kx_s1, kx_s2, kx_sl, kx_pre, kx_c2, kx_pl, kx_cmp, kx_oF, kx_eqN, kx_nil, kx_c1, kx_ft, kx_aI, kx_aL, kx_aR, kx_ln, Nat.reduceAdd, Option.toList, List.cons_append, List.nil_append, cf10_9, cf10_6, cf7_7, cf7_8])
    repeat' apply And.intro
    all_goals try (first | with_reducible assumption | (with_reducible refine ck_nzI ?_; simp; done) | (with_reducible refine ck_nzL ?_; simp; done) | (with_reducible refine vp_in_nI ?_ ?_ <;> first | omega | decide) | (with_reducible refine Nat.le_of_ble_eq_true ?_; rfl) | omega | exact Or.inl trivial | exact Or.inr trivial | exact Or.inl rfl | exact Or.inr rfl)
    refine hC.2.1 236 _ _ _ _ _ _ _ _ _ _ _ _ _ _ _ _ _ lX10_236 (ct_X10_isMinute l G) rfl rfl (Nat.le_of_ble_eq_true rfl) (by first | decide | omega) (by decide) (by omega) (by omega) dX10_heard_9 ?_
    rw [him]
    refine hB bX10_heard_12 _ _ _ _ _ _ _ kX10_heard_12 ?_
    dsimp only [bX10_heard_12, kx_wp, kx_step, kx_lI, kx_lL, kx_lA, kx_gl, kx_pI, kx_pL, kx_pR, kx_pA, kx_pV, kx_s1, kx_s2, kx_sl, kx_pre, kx_c2, kx_pl, kx_cmp, kx_oF, kx_eqN, kx_nil, kx_c1, kx_ft, kx_aI, kx_aL, kx_aR, kx_ln, Nat.reduceAdd, Option.toList, List.cons_append, List.nil_append, cf10_9, cf10_6, cf7_7, cf7_8]
    repeat (simp only [h64, h64s, hO, hip, him, sW_71, e7, e8, ks_eq, ks_ss]; try dsimp only [kx_wp, kx_step, kx_lI, kx_lL, kx_lA, kx_gl, kx_pI, kx_pL, kx_pR, kx_pA, kx_pV, kx_s1, kx_s2, kx_sl, kx_pre, kx_c2, kx_pl, kx_cmp, kx_oF, kx_eqN, kx_nil, kx_c1, kx_ft, kx_aI, kx_aL, kx_aR, kx_ln, Nat.reduceAdd, Option.toList, List.cons_append, List.nil_append, cf10_9, cf10_6, cf7_7, cf7_8])
    repeat' apply And.intro
    all_goals try (first | with_reducible assumption | (with_reducible refine ck_nzI ?_; simp; done) | (with_reducible refine ck_nzL ?_; simp; done) | (with_reducible refine vp_in_nI ?_ ?_ <;> first | omega | decide) | (with_reducible refine Nat.le_of_ble_eq_true ?_; rfl) | omega | exact Or.inl trivial | exact Or.inr trivial | exact Or.inl rfl | exact Or.inr rfl)
    · intro zc12
      first | exact absurd rfl zc12 | exact absurd zc12 (by decide) | exact absurd (by decide) zc12 | (exfalso; first | exact absurd zc5 (by decide) | exact absurd zc12 (by decide) | exact absurd zc17 (by decide) | exact absurd zc23 (by decide) | exact absurd zc50 (by decide) | exact absurd zc64 (by decide) | exact zc50 rfl | exact zc64 rfl) | (exfalso; simp_all; done)
    · intro zc12
      have ze12 := zc12
      refine hB bX10_heard_15 _ _ _ _ _ _ _ kX10_heard_15 ?_
      dsimp only [bX10_heard_15, kx_wp, kx_step, kx_lI, kx_lL, kx_lA, kx_gl, kx_pI, kx_pL, kx_pR, kx_pA, kx_pV, kx_s1, kx_s2, kx_sl, kx_pre, kx_c2, kx_pl, kx_cmp, kx_oF, kx_eqN, kx_nil, kx_c1, kx_ft, kx_aI, kx_aL, kx_aR, kx_ln, Nat.reduceAdd, Option.toList, List.cons_append, List.nil_append, cf10_9, cf10_6, cf7_7, cf7_8]
      repeat (simp only [h64, h64s, hO, hip, him, sW_71, e7, e8, ks_eq, ks_ss]; try dsimp only [kx_wp, kx_step, kx_lI, kx_lL, kx_lA, kx_gl, kx_pI, kx_pL, kx_pR, kx_pA, kx_pV, kx_s1, kx_s2, kx_sl, kx_pre, kx_c2, kx_pl, kx_cmp, kx_oF, kx_eqN, kx_nil, kx_c1, kx_ft, kx_aI, kx_aL, kx_aR, kx_ln, Nat.reduceAdd, Option.toList, List.cons_append, List.nil_append, cf10_9, cf10_6, cf7_7, cf7_8])
      repeat' apply And.intro
      all_goals try (first | with_reducible assumption | (with_reducible refine ck_nzI ?_; simp; done) | (with_reducible refine ck_nzL ?_; simp; done) | (with_reducible refine vp_in_nI ?_ ?_ <;> first | omega | decide) | (with_reducible refine Nat.le_of_ble_eq_true ?_; rfl) | omega | exact Or.inl trivial | exact Or.inr trivial | exact Or.inl rfl | exact Or.inr rfl)
      · intro zc17
        first | exact absurd rfl zc17 | exact absurd zc17 (by decide) | exact absurd (by decide) zc17 | (exfalso; first | exact absurd zc5 (by decide) | exact absurd zc12 (by decide) | exact absurd zc17 (by decide) | exact absurd zc23 (by decide) | exact absurd zc50 (by decide) | exact absurd zc64 (by decide) | exact zc50 rfl | exact zc64 rfl) | (exfalso; simp_all; done)
      · intro zc17
        with_reducible first | have ze17 := Int32.not_lt.mp zc17 | have ze17 := zc17
        refine hB bX10_heard_20 _ _ _ _ _ _ _ kX10_heard_20 ?_
        dsimp only [bX10_heard_20, kx_wp, kx_step, kx_lI, kx_lL, kx_lA, kx_gl, kx_pI, kx_pL, kx_pR, kx_pA, kx_pV, kx_s1, kx_s2, kx_sl, kx_pre, kx_c2, kx_pl, kx_cmp, kx_oF, kx_eqN, kx_nil, kx_c1, kx_ft, kx_aI, kx_aL, kx_aR, kx_ln, Nat.reduceAdd, Option.toList, List.cons_append, List.nil_append, cf10_9, cf10_6, cf7_7, cf7_8]
        repeat (simp only [h64, h64s, hO, hip, him, sW_71, e7, e8, ks_eq, ks_ss]; try dsimp only [kx_wp, kx_step, kx_lI, kx_lL, kx_lA, kx_gl, kx_pI, kx_pL, kx_pR, kx_pA, kx_pV, kx_s1, kx_s2, kx_sl, kx_pre, kx_c2, kx_pl, kx_cmp, kx_oF, kx_eqN, kx_nil, kx_c1, kx_ft, kx_aI, kx_aL, kx_aR, kx_ln, Nat.reduceAdd, Option.toList, List.cons_append, List.nil_append, cf10_9, cf10_6, cf7_7, cf7_8])
        repeat' apply And.intro
        all_goals try (first | with_reducible assumption | (with_reducible refine ck_nzI ?_; simp; done) | (with_reducible refine ck_nzL ?_; simp; done) | (with_reducible refine vp_in_nI ?_ ?_ <;> first | omega | decide) | (with_reducible refine Nat.le_of_ble_eq_true ?_; rfl) | omega | exact Or.inl trivial | exact Or.inr trivial | exact Or.inl rfl | exact Or.inr rfl)
        · intro zc23
          first | exact absurd rfl zc23 | exact absurd zc23 (by decide) | exact absurd (by decide) zc23 | (exfalso; first | exact absurd zc5 (by decide) | exact absurd zc12 (by decide) | exact absurd zc17 (by decide) | exact absurd zc23 (by decide) | exact absurd zc50 (by decide) | exact absurd zc64 (by decide) | exact zc50 rfl | exact zc64 rfl) | (exfalso; simp_all; done)
        · intro zc23
          with_reducible first | have ze23 := Int32.not_lt.mp zc23 | have ze23 := zc23
          refine hB bX10_heard_26 _ _ _ _ _ _ _ kX10_heard_26 ?_
          dsimp only [bX10_heard_26, kx_wp, kx_step, kx_lI, kx_lL, kx_lA, kx_gl, kx_pI, kx_pL, kx_pR, kx_pA, kx_pV, kx_s1, kx_s2, kx_sl, kx_pre, kx_c2, kx_pl, kx_cmp, kx_oF, kx_eqN, kx_nil, kx_c1, kx_ft, kx_aI, kx_aL, kx_aR, kx_ln, Nat.reduceAdd, Option.toList, List.cons_append, List.nil_append, cf10_9, cf10_6, cf7_7, cf7_8]
          repeat (simp only [h64, h64s, hO, hip, him, sW_71, e7, e8, ks_eq, ks_ss]; try dsimp only [kx_wp, kx_step, kx_lI, kx_lL, kx_lA, kx_gl, kx_pI, kx_pL, kx_pR, kx_pA, kx_pV, kx_s1, kx_s2, kx_sl, kx_pre, kx_c2, kx_pl, kx_cmp, kx_oF, kx_eqN, kx_nil, kx_c1, kx_ft, kx_aI, kx_aL, kx_aR, kx_ln, Nat.reduceAdd, Option.toList, List.cons_append, List.nil_append, cf10_9, cf10_6, cf7_7, cf7_8])
          repeat' apply And.intro
          all_goals try (first | with_reducible assumption | (with_reducible refine ck_nzI ?_; simp; done) | (with_reducible refine ck_nzL ?_; simp; done) | (with_reducible refine vp_in_nI ?_ ?_ <;> first | omega | decide) | (with_reducible refine Nat.le_of_ble_eq_true ?_; rfl) | omega | exact Or.inl trivial | exact Or.inr trivial | exact Or.inl rfl | exact Or.inr rfl)
          refine hC.2.1 95 _ _ _ _ _ _ _ _ _ _ _ _ _ _ _ _ _ lX10_95 (ct_X10_need l G (b := 1) (by decide)) rfl rfl (Nat.le_of_ble_eq_true rfl) (by first | decide | omega) (by decide) (by omega) (by omega) dX10_heard_31 ?_
          refine hB bX10_heard_34 _ _ _ _ _ _ _ kX10_heard_34 ?_
          dsimp only [bX10_heard_34, kx_wp, kx_step, kx_lI, kx_lL, kx_lA, kx_gl, kx_pI, kx_pL, kx_pR, kx_pA, kx_pV, kx_s1, kx_s2, kx_sl, kx_pre, kx_c2, kx_pl, kx_cmp, kx_oF, kx_eqN, kx_nil, kx_c1, kx_ft, kx_aI, kx_aL, kx_aR, kx_ln, Nat.reduceAdd, Option.toList, List.cons_append, List.nil_append, cf10_9, cf10_6, cf7_7, cf7_8]
          repeat (simp only [h64, h64s, hO, hip, him, sW_71, e7, e8, ks_eq, ks_ss]; try dsimp only [kx_wp, kx_step, kx_lI, kx_lL, kx_lA, kx_gl, kx_pI, kx_pL, kx_pR, kx_pA, kx_pV, kx_s1, kx_s2, kx_sl, kx_pre, kx_c2, kx_pl, kx_cmp, kx_oF, kx_eqN, kx_nil, kx_c1, kx_ft, kx_aI, kx_aL, kx_aR, kx_ln, Nat.reduceAdd, Option.toList, List.cons_append, List.nil_append, cf10_9, cf10_6, cf7_7, cf7_8])
          repeat' apply And.intro
          all_goals try (first | with_reducible assumption | (with_reducible refine ck_nzI ?_; simp; done) | (with_reducible refine ck_nzL ?_; simp; done) | (with_reducible refine vp_in_nI ?_ ?_ <;> first | omega | decide) | (with_reducible refine Nat.le_of_ble_eq_true ?_; rfl) | omega | exact Or.inl trivial | exact Or.inr trivial | exact Or.inl rfl | exact Or.inr rfl)
          refine hC.1 239 _ _ _ _ _ _ _ 7 _ _ _ _ _ _ _ _ _ _ _ _ lX10_239 (hm9) ⟨by decide, rfl⟩ (hO) rfl rfl (Nat.le_of_ble_eq_true rfl) (by first | decide | omega) (by decide) (by omega) (by omega) dX10_heard_45 ?_
          refine hB bX10_heard_48 _ _ _ _ _ _ _ kX10_heard_48 ?_
          dsimp only [bX10_heard_48, kx_wp, kx_step, kx_lI, kx_lL, kx_lA, kx_gl, kx_pI, kx_pL, kx_pR, kx_pA, kx_pV, kx_s1, kx_s2, kx_sl, kx_pre, kx_c2, kx_pl, kx_cmp, kx_oF, kx_eqN, kx_nil, kx_c1, kx_ft, kx_aI, kx_aL, kx_aR, kx_ln, Nat.reduceAdd, Option.toList, List.cons_append, List.nil_append, cf10_9, cf10_6, cf7_7, cf7_8]
          repeat (simp only [h64, h64s, hO, hip, him, sW_71, e7, e8, ks_eq, ks_ss]; try dsimp only [kx_wp, kx_step, kx_lI, kx_lL, kx_lA, kx_gl, kx_pI, kx_pL, kx_pR, kx_pA, kx_pV, kx_s1, kx_s2, kx_sl, kx_pre, kx_c2, kx_pl, kx_cmp, kx_oF, kx_eqN, kx_nil, kx_c1, kx_ft, kx_aI, kx_aL, kx_aR, kx_ln, Nat.reduceAdd, Option.toList, List.cons_append, List.nil_append, cf10_9, cf10_6, cf7_7, cf7_8])
          repeat' apply And.intro
          all_goals try (first | with_reducible assumption | (with_reducible refine ck_nzI ?_; simp; done) | (with_reducible refine ck_nzL ?_; simp; done) | (with_reducible refine vp_in_nI ?_ ?_ <;> first | omega | decide) | (with_reducible refine Nat.le_of_ble_eq_true ?_; rfl) | omega | exact Or.inl trivial | exact Or.inr trivial | exact Or.inl rfl | exact Or.inr rfl)
          · intro zc50
            have ze50 := zc50
            refine hB bX10_heard_61 _ _ _ _ _ _ _ kX10_heard_61 ?_
            dsimp only [bX10_heard_61, kx_wp, kx_step, kx_lI, kx_lL, kx_lA, kx_gl, kx_pI, kx_pL, kx_pR, kx_pA, kx_pV, kx_s1, kx_s2, kx_sl, kx_pre, kx_c2, kx_pl, kx_cmp, kx_oF, kx_eqN, kx_nil, kx_c1, kx_ft, kx_aI, kx_aL, kx_aR, kx_ln, Nat.reduceAdd, Option.toList, List.cons_append, List.nil_append, cf10_9, cf10_6, cf7_7, cf7_8]
            repeat (simp only [h64, h64s, hO, hip, him, sW_71, e7, e8, ks_eq, ks_ss]; try dsimp only [kx_wp, kx_step, kx_lI, kx_lL, kx_lA, kx_gl, kx_pI, kx_pL, kx_pR, kx_pA, kx_pV, kx_s1, kx_s2, kx_sl, kx_pre, kx_c2, kx_pl, kx_cmp, kx_oF, kx_eqN, kx_nil, kx_c1, kx_ft, kx_aI, kx_aL, kx_aR, kx_ln, Nat.reduceAdd, Option.toList, List.cons_append, List.nil_append, cf10_9, cf10_6, cf7_7, cf7_8])
            repeat' apply And.intro
            all_goals try (first | with_reducible assumption | (with_reducible refine ck_nzI ?_; simp; done) | (with_reducible refine ck_nzL ?_; simp; done) | (with_reducible refine vp_in_nI ?_ ?_ <;> first | omega | decide) | (with_reducible refine Nat.le_of_ble_eq_true ?_; rfl) | omega | exact Or.inl trivial | exact Or.inr trivial | exact Or.inl rfl | exact Or.inr rfl)
            · intro zc64
              first | exact absurd rfl zc64 | exact absurd zc64 (by decide) | exact absurd (by decide) zc64 | (exfalso; first | exact absurd zc5 (by decide) | exact absurd zc12 (by decide) | exact absurd zc17 (by decide) | exact absurd zc23 (by decide) | exact absurd zc50 (by decide) | exact absurd zc64 (by decide) | exact zc50 rfl | exact zc64 rfl) | (exfalso; simp_all; done)
            · intro zc64
              with_reducible first | have ze64 := Decidable.not_not.mp zc64 | have ze64 := zc64
              refine hB bX10_heard_67 _ _ _ _ _ _ _ kX10_heard_67 ?_
              dsimp only [bX10_heard_67, kx_wp, kx_step, kx_lI, kx_lL, kx_lA, kx_gl, kx_pI, kx_pL, kx_pR, kx_pA, kx_pV, kx_s1, kx_s2, kx_sl, kx_pre, kx_c2, kx_pl, kx_cmp, kx_oF, kx_eqN, kx_nil, kx_c1, kx_ft, kx_aI, kx_aL, kx_aR, kx_ln, Nat.reduceAdd, Option.toList, List.cons_append, List.nil_append, cf10_9, cf10_6, cf7_7, cf7_8]
              repeat (simp only [h64, h64s, hO, hip, him, sW_71, e7, e8, ks_eq, ks_ss]; try dsimp only [kx_wp, kx_step, kx_lI, kx_lL, kx_lA, kx_gl, kx_pI, kx_pL, kx_pR, kx_pA, kx_pV, kx_s1, kx_s2, kx_sl, kx_pre, kx_c2, kx_pl, kx_cmp, kx_oF, kx_eqN, kx_nil, kx_c1, kx_ft, kx_aI, kx_aL, kx_aR, kx_ln, Nat.reduceAdd, Option.toList, List.cons_append, List.nil_append, cf10_9, cf10_6, cf7_7, cf7_8])
              repeat' apply And.intro
              all_goals try (first | with_reducible assumption | (with_reducible refine ck_nzI ?_; simp; done) | (with_reducible refine ck_nzL ?_; simp; done) | (with_reducible refine vp_in_nI ?_ ?_ <;> first | omega | decide) | (with_reducible refine Nat.le_of_ble_eq_true ?_; rfl) | omega | exact Or.inl trivial | exact Or.inr trivial | exact Or.inl rfl | exact Or.inr rfl)
              refine hC.1 246 _ _ _ _ _ _ _ 7 _ _ _ _ _ _ _ _ _ _ _ _ lX10_246 (ct_X7_takenFor l G sW_71) ⟨by decide, rfl⟩ (sW_71) rfl rfl (Nat.le_of_ble_eq_true rfl) (by first | decide | omega) (by decide) (by omega) (by omega) dX10_heard_71 ?_
              refine hB bX10_heard_74 _ _ _ _ _ _ _ kX10_heard_74 ?_
              dsimp only [bX10_heard_74, kx_wp, kx_step, kx_lI, kx_lL, kx_lA, kx_gl, kx_pI, kx_pL, kx_pR, kx_pA, kx_pV, kx_s1, kx_s2, kx_sl, kx_pre, kx_c2, kx_pl, kx_cmp, kx_oF, kx_eqN, kx_nil, kx_c1, kx_ft, kx_aI, kx_aL, kx_aR, kx_ln, Nat.reduceAdd, Option.toList, List.cons_append, List.nil_append, cf10_9, cf10_6, cf7_7, cf7_8]
              repeat (simp only [h64, h64s, hO, hip, him, sW_71, e7, e8, ks_eq, ks_ss]; try dsimp only [kx_wp, kx_step, kx_lI, kx_lL, kx_lA, kx_gl, kx_pI, kx_pL, kx_pR, kx_pA, kx_pV, kx_s1, kx_s2, kx_sl, kx_pre, kx_c2, kx_pl, kx_cmp, kx_oF, kx_eqN, kx_nil, kx_c1, kx_ft, kx_aI, kx_aL, kx_aR, kx_ln, Nat.reduceAdd, Option.toList, List.cons_append, List.nil_append, cf10_9, cf10_6, cf7_7, cf7_8])
              repeat' apply And.intro
              all_goals try (first | with_reducible assumption | (with_reducible refine ck_nzI ?_; simp; done) | (with_reducible refine ck_nzL ?_; simp; done) | (with_reducible refine vp_in_nI ?_ ?_ <;> first | omega | decide) | (with_reducible refine Nat.le_of_ble_eq_true ?_; rfl) | omega | exact Or.inl trivial | exact Or.inr trivial | exact Or.inl rfl | exact Or.inr rfl)
              refine hB bX10_heard_84 _ _ _ _ _ _ _ kX10_heard_84 ?_
              dsimp only [bX10_heard_84, kx_wp, kx_step, kx_lI, kx_lL, kx_lA, kx_gl, kx_pI, kx_pL, kx_pR, kx_pA, kx_pV, kx_s1, kx_s2, kx_sl, kx_pre, kx_c2, kx_pl, kx_cmp, kx_oF, kx_eqN, kx_nil, kx_c1, kx_ft, kx_aI, kx_aL, kx_aR, kx_ln, Nat.reduceAdd, Option.toList, List.cons_append, List.nil_append, cf10_9, cf10_6, cf7_7, cf7_8]
              repeat (simp only [h64, h64s, hO, hip, him, sW_71, e7, e8, ks_eq, ks_ss]; try dsimp only [kx_wp, kx_step, kx_lI, kx_lL, kx_lA, kx_gl, kx_pI, kx_pL, kx_pR, kx_pA, kx_pV, kx_s1, kx_s2, kx_sl, kx_pre, kx_c2, kx_pl, kx_cmp, kx_oF, kx_eqN, kx_nil, kx_c1, kx_ft, kx_aI, kx_aL, kx_aR, kx_ln, Nat.reduceAdd, Option.toList, List.cons_append, List.nil_append, cf10_9, cf10_6, cf7_7, cf7_8])
              all_goals (repeat' apply And.intro)
              all_goals ((try clear hB hC); first | exact True.intro | with_reducible rfl | with_reducible assumption | (with_reducible refine vp_in_nI ?_ ?_ <;> first | omega | decide) | exact Nat.le_of_ble_eq_true rfl | (with_reducible refine ck_nzI ?_; simp; done) | (with_reducible refine ck_nzL ?_; simp; done) | (simp only [pk_us, pk_uLs, ze5, ze12, zc17, ze17, zc23, ze23, ze50, eq_true ze64, ↓reduceIte, not_true_eq_false, not_false_eq_true]; done) | (simp only [ze5, ze12, zc17, ze17, zc23, ze23, ze50, eq_true ze64, ↓reduceIte, not_true_eq_false, not_false_eq_true]; with_reducible rfl) | omega | skip)
          · intro zc50
            first | exact absurd rfl zc50 | exact absurd zc50 (by decide) | exact absurd (by decide) zc50 | (exfalso; first | exact absurd zc5 (by decide) | exact absurd zc12 (by decide) | exact absurd zc17 (by decide) | exact absurd zc23 (by decide) | exact absurd zc50 (by decide) | exact absurd zc64 (by decide) | exact zc50 rfl | exact zc64 rfl) | (exfalso; simp_all; done)

set_option maxRecDepth 100000 in
set_option maxHeartbeats 4000000 in
theorem ct_X10_heard_2 (l : Launch) (G : kx_G) {P : kx_P} {sz : Nat} {sv : Value} {K : Nat → Int32} (h64 : P 64 = kO 10 (kf (cr10 sv) K)) {Fs X Y : Nat → Int32} (hO : P 71 = kO 7 (kf cr7 Fs)) (h76 : P 76 = kI 0 120 X) (h77 : P 77 = kI 0 120 Y) {q1 q2 q3 q4 : Nat → Int32} (hS : cx_SR P q1 q2 q3 q4) {sd cl : Nat} (h4 : Fs 4 = nI sd) (hsd : sd < 2 ^ 29) (hcl : cl ≤ 8) {cn wn : Nat → Nat} {DD : Nat → Int64} {HH : Nat → Value} {CC VV : Nat → Nat → Int32} (hCS : cx_CS P cl cn wn DD HH CC VV) (hso : cx_SO q1 q2 q3 q4 CC sd cl) {x y : Nat} (hx : x ≤ 99) (hy : y ≤ 99) (hip : cx_ip (nI x) (nI y) = 1) {mi : Nat} (hmi : mi ≤ 100000) (him : cx_im (nI mi) = 1)  : kx_M l G sX10_heard 5 0 0 [.ref 64, .int (nI x), .int (nI y), .int (nI mi), .int (2)] P sz (some (.int ((cx_li CC VV q1 q2 q3 q4 (nI x) (nI y) (nI mi) sd).2))) (sW P (upd (upd Fs 7 (cx_li CC VV q1 q2 q3 q4 (nI x) (nI y) (nI mi) sd).1) 8 (cx_li CC VV q1 q2 q3 q4 (nI x) (nI y) (nI mi) sd).2) (cx_lo CC VV q1 q2 q3 q4 (nI x) (nI y) (nI mi) sd X Y (min sd 200)).1 (cx_lo CC VV q1 q2 q3 q4 (nI x) (nI y) (nI mi) sd X Y (min sd 200)).2) sz := by
  have hSW : sW P Fs X Y = P := by unfold sW; rw [ks_id h76, ks_id h77, ks_id hO]
  have hm9 := ct_X7_listen l G (sz := sz) (F := Fs) (X := X) (Y := Y) hS h4 hsd hcl hCS hso hx hy (m := mi) (by omega)
  rw [hSW] at hm9
  have h64s : ∀ F X Y, sW P F X Y 64 = kO 10 (kf (cr10 sv) K) := fun _ _ _ => (sW_o (by decide) (by decide) (by decide)).trans h64
  have e7 : (upd (upd Fs 7 (cx_li CC VV q1 q2 q3 q4 (nI x) (nI y) (nI mi) sd).1) 8 (cx_li CC VV q1 q2 q3 q4 (nI x) (nI y) (nI mi) sd).2) 7 = (cx_li CC VV q1 q2 q3 q4 (nI x) (nI y) (nI mi) sd).1 := rfl
  have e8 : (upd (upd Fs 7 (cx_li CC VV q1 q2 q3 q4 (nI x) (nI y) (nI mi) sd).1) 8 (cx_li CC VV q1 q2 q3 q4 (nI x) (nI y) (nI mi) sd).2) 8 = (cx_li CC VV q1 q2 q3 q4 (nI x) (nI y) (nI mi) sd).2 := rfl
  refine kx_mk kx_tab kxLok_X10 (ini := false) [some (.ref 64), some (.int (nI x)), some (.int (nI y)), some (.int (nI mi)), some (.int (2))] ⟨by decide, rfl, by decide, by decide⟩ (⟨_, rfl⟩) rfl rfl (fun g hB hC => ?_)
  refine hB bX10_heard_0 _ _ _ _ _ _ _ kX10_heard_0 ?_
  dsimp only [bX10_heard_0, kx_wp, kx_step, kx_lI, kx_lL, kx_lA, kx_gl, kx_pI, kx_pL, kx_pR, kx_pA, kx_pV, kx_s1, kx_s2, kx_sl, kx_pre, kx_c2, kx_pl, kx_cmp, kx_oF, kx_eqN, kx_nil, kx_c1, kx_ft, kx_aI, kx_aL, kx_aR, kx_ln, Nat.reduceAdd, Option.toList, List.cons_append, List.nil_append, cf10_9, cf10_6, cf7_7, cf7_8]
  repeat (simp only [h64, h64s, hO, hip, him, sW_71, e7, e8, ks_eq, ks_ss]; try dsimp only [kx_wp, kx_step, kx_lI, kx_lL, kx_lA, kx_gl, kx_pI, kx_pL, kx_pR, kx_pA, kx_pV, kx_s1, kx_s2, kx_sl, kx_pre, kx_c2, kx_pl, kx_cmp, kx_oF, kx_eqN, kx_nil, kx_c1, kx_ft, kx_aI, kx_aL, kx_aR, kx_ln, Nat.reduceAdd, Option.toList, List.cons_append, List.nil_append, cf10_9, cf10_6, cf7_7, cf7_8])
  repeat' apply And.intro
  all_goals try (first | with_reducible assumption | (with_reducible refine ck_nzI ?_; simp; done) | (with_reducible refine ck_nzL ?_; simp; done) | (with_reducible refine vp_in_nI ?_ ?_ <;> first | omega | decide) | (with_reducible refine Nat.le_of_ble_eq_true ?_; rfl) | omega | exact Or.inl trivial | exact Or.inr trivial | exact Or.inl rfl | exact Or.inr rfl)
  refine hC.2.1 111 _ _ _ _ _ _ _ _ _ _ _ _ _ _ _ _ _ lX10_111 (ct_X10_isPlace l G) rfl rfl (Nat.le_of_ble_eq_true rfl) (by first | decide | omega) (by decide) (by omega) (by omega) dX10_heard_2 ?_
  rw [hip]
  refine hB bX10_heard_5 _ _ _ _ _ _ _ kX10_heard_5 ?_
  dsimp only [bX10_heard_5, kx_wp, kx_step, kx_lI, kx_lL, kx_lA, kx_gl, kx_pI, kx_pL, kx_pR, kx_pA, kx_pV, kx_s1, kx_s2, kx_sl, kx_pre, kx_c2, kx_pl, kx_cmp, kx_oF, kx_eqN, kx_nil, kx_c1, kx_ft, kx_aI, kx_aL, kx_aR, kx_ln, Nat.reduceAdd, Option.toList, List.cons_append, List.nil_append, cf10_9, cf10_6, cf7_7, cf7_8]
  repeat (simp only [h64, h64s, hO, hip, him, sW_71, e7, e8, ks_eq, ks_ss]; try dsimp only [kx_wp, kx_step, kx_lI, kx_lL, kx_lA, kx_gl, kx_pI, kx_pL, kx_pR, kx_pA, kx_pV, kx_s1, kx_s2, kx_sl, kx_pre, kx_c2, kx_pl, kx_cmp, kx_oF, kx_eqN, kx_nil, kx_c1, kx_ft, kx_aI, kx_aL, kx_aR, kx_ln, Nat.reduceAdd, Option.toList, List.cons_append, List.nil_append, cf10_9, cf10_6, cf7_7, cf7_8])
  repeat' apply And.intro
  all_goals try (first | with_reducible assumption | (with_reducible refine ck_nzI ?_; simp; done) | (with_reducible refine ck_nzL ?_; simp; done) | (with_reducible refine vp_in_nI ?_ ?_ <;> first | omega | decide) | (with_reducible refine Nat.le_of_ble_eq_true ?_; rfl) | omega | exact Or.inl trivial | exact Or.inr trivial | exact Or.inl rfl | exact Or.inr rfl)
  · intro zc5
    first | exact absurd rfl zc5 | exact absurd zc5 (by decide) | exact absurd (by decide) zc5 | (exfalso; first | exact absurd zc5 (by decide) | exact absurd zc12 (by decide) | exact absurd zc17 (by decide) | exact absurd zc23 (by decide) | exact absurd zc50 (by decide) | exact absurd zc64 (by decide) | exact zc50 rfl | exact zc64 rfl) | (exfalso; simp_all; done)
  · intro zc5
    have ze5 := zc5
    refine hB bX10_heard_8 _ _ _ _ _ _ _ kX10_heard_8 ?_
    dsimp only [bX10_heard_8, kx_wp, kx_step, kx_lI, kx_lL, kx_lA, kx_gl, kx_pI, kx_pL, kx_pR, kx_pA, kx_pV, kx_s1, kx_s2, kx_sl, kx_pre, kx_c2, kx_pl, kx_cmp, kx_oF, kx_eqN, kx_nil, kx_c1, kx_ft, kx_aI, kx_aL, kx_aR, kx_ln, Nat.reduceAdd, Option.toList, List.cons_append, List.nil_append, cf10_9, cf10_6, cf7_7, cf7_8]
    repeat (simp only [h64, h64s, hO, hip, him, sW_71, e7, e8, ks_eq, ks_ss]; try dsimp only [kx_wp, kx_step, kx_lI, kx_lL, kx_lA, kx_gl, kx_pI, kx_pL, kx_pR, kx_pA, kx_pV, kx_s1, kx_s2, kx_sl, kx_pre, kx_c2, kx_pl, kx_cmp, kx_oF, kx_eqN, kx_nil, kx_c1, kx_ft, kx_aI, kx_aL, kx_aR, kx_ln, Nat.reduceAdd, Option.toList, List.cons_append, List.nil_append, cf10_9, cf10_6, cf7_7, cf7_8])
    repeat' apply And.intro
    all_goals try (first | with_reducible assumption | (with_reducible refine ck_nzI ?_; simp; done) | (with_reducible refine ck_nzL ?_; simp; done) | (with_reducible refine vp_in_nI ?_ ?_ <;> first | omega | decide) | (with_reducible refine Nat.le_of_ble_eq_true ?_; rfl) | omega | exact Or.inl trivial | exact Or.inr trivial | exact Or.inl rfl | exact Or.inr rfl)
    refine hC.2.1 236 _ _ _ _ _ _ _ _ _ _ _ _ _ _ _ _ _ lX10_236 (ct_X10_isMinute l G) rfl rfl (Nat.le_of_ble_eq_true rfl) (by first | decide | omega) (by decide) (by omega) (by omega) dX10_heard_9 ?_
    rw [him]
    refine hB bX10_heard_12 _ _ _ _ _ _ _ kX10_heard_12 ?_
    dsimp only [bX10_heard_12, kx_wp, kx_step, kx_lI, kx_lL, kx_lA, kx_gl, kx_pI, kx_pL, kx_pR, kx_pA, kx_pV, kx_s1, kx_s2, kx_sl, kx_pre, kx_c2, kx_pl, kx_cmp, kx_oF, kx_eqN, kx_nil, kx_c1, kx_ft, kx_aI, kx_aL, kx_aR, kx_ln, Nat.reduceAdd, Option.toList, List.cons_append, List.nil_append, cf10_9, cf10_6, cf7_7, cf7_8]
    repeat (simp only [h64, h64s, hO, hip, him, sW_71, e7, e8, ks_eq, ks_ss]; try dsimp only [kx_wp, kx_step, kx_lI, kx_lL, kx_lA, kx_gl, kx_pI, kx_pL, kx_pR, kx_pA, kx_pV, kx_s1, kx_s2, kx_sl, kx_pre, kx_c2, kx_pl, kx_cmp, kx_oF, kx_eqN, kx_nil, kx_c1, kx_ft, kx_aI, kx_aL, kx_aR, kx_ln, Nat.reduceAdd, Option.toList, List.cons_append, List.nil_append, cf10_9, cf10_6, cf7_7, cf7_8])
    repeat' apply And.intro
    all_goals try (first | with_reducible assumption | (with_reducible refine ck_nzI ?_; simp; done) | (with_reducible refine ck_nzL ?_; simp; done) | (with_reducible refine vp_in_nI ?_ ?_ <;> first | omega | decide) | (with_reducible refine Nat.le_of_ble_eq_true ?_; rfl) | omega | exact Or.inl trivial | exact Or.inr trivial | exact Or.inl rfl | exact Or.inr rfl)
    · intro zc12
      first | exact absurd rfl zc12 | exact absurd zc12 (by decide) | exact absurd (by decide) zc12 | (exfalso; first | exact absurd zc5 (by decide) | exact absurd zc12 (by decide) | exact absurd zc17 (by decide) | exact absurd zc23 (by decide) | exact absurd zc50 (by decide) | exact absurd zc64 (by decide) | exact zc50 rfl | exact zc64 rfl) | (exfalso; simp_all; done)
    · intro zc12
      have ze12 := zc12
      refine hB bX10_heard_15 _ _ _ _ _ _ _ kX10_heard_15 ?_
      dsimp only [bX10_heard_15, kx_wp, kx_step, kx_lI, kx_lL, kx_lA, kx_gl, kx_pI, kx_pL, kx_pR, kx_pA, kx_pV, kx_s1, kx_s2, kx_sl, kx_pre, kx_c2, kx_pl, kx_cmp, kx_oF, kx_eqN, kx_nil, kx_c1, kx_ft, kx_aI, kx_aL, kx_aR, kx_ln, Nat.reduceAdd, Option.toList, List.cons_append, List.nil_append, cf10_9, cf10_6, cf7_7, cf7_8]
      repeat (simp only [h64, h64s, hO, hip, him, sW_71, e7, e8, ks_eq, ks_ss]; try dsimp only [kx_wp, kx_step, kx_lI, kx_lL, kx_lA, kx_gl, kx_pI, kx_pL, kx_pR, kx_pA, kx_pV, kx_s1, kx_s2, kx_sl, kx_pre, kx_c2, kx_pl, kx_cmp, kx_oF, kx_eqN, kx_nil, kx_c1, kx_ft, kx_aI, kx_aL, kx_aR, kx_ln, Nat.reduceAdd, Option.toList, List.cons_append, List.nil_append, cf10_9, cf10_6, cf7_7, cf7_8])
      repeat' apply And.intro
      all_goals try (first | with_reducible assumption | (with_reducible refine ck_nzI ?_; simp; done) | (with_reducible refine ck_nzL ?_; simp; done) | (with_reducible refine vp_in_nI ?_ ?_ <;> first | omega | decide) | (with_reducible refine Nat.le_of_ble_eq_true ?_; rfl) | omega | exact Or.inl trivial | exact Or.inr trivial | exact Or.inl rfl | exact Or.inr rfl)
      · intro zc17
        first | exact absurd rfl zc17 | exact absurd zc17 (by decide) | exact absurd (by decide) zc17 | (exfalso; first | exact absurd zc5 (by decide) | exact absurd zc12 (by decide) | exact absurd zc17 (by decide) | exact absurd zc23 (by decide) | exact absurd zc50 (by decide) | exact absurd zc64 (by decide) | exact zc50 rfl | exact zc64 rfl) | (exfalso; simp_all; done)
      · intro zc17
        with_reducible first | have ze17 := Int32.not_lt.mp zc17 | have ze17 := zc17
        refine hB bX10_heard_20 _ _ _ _ _ _ _ kX10_heard_20 ?_
        dsimp only [bX10_heard_20, kx_wp, kx_step, kx_lI, kx_lL, kx_lA, kx_gl, kx_pI, kx_pL, kx_pR, kx_pA, kx_pV, kx_s1, kx_s2, kx_sl, kx_pre, kx_c2, kx_pl, kx_cmp, kx_oF, kx_eqN, kx_nil, kx_c1, kx_ft, kx_aI, kx_aL, kx_aR, kx_ln, Nat.reduceAdd, Option.toList, List.cons_append, List.nil_append, cf10_9, cf10_6, cf7_7, cf7_8]
        repeat (simp only [h64, h64s, hO, hip, him, sW_71, e7, e8, ks_eq, ks_ss]; try dsimp only [kx_wp, kx_step, kx_lI, kx_lL, kx_lA, kx_gl, kx_pI, kx_pL, kx_pR, kx_pA, kx_pV, kx_s1, kx_s2, kx_sl, kx_pre, kx_c2, kx_pl, kx_cmp, kx_oF, kx_eqN, kx_nil, kx_c1, kx_ft, kx_aI, kx_aL, kx_aR, kx_ln, Nat.reduceAdd, Option.toList, List.cons_append, List.nil_append, cf10_9, cf10_6, cf7_7, cf7_8])
        repeat' apply And.intro
        all_goals try (first | with_reducible assumption | (with_reducible refine ck_nzI ?_; simp; done) | (with_reducible refine ck_nzL ?_; simp; done) | (with_reducible refine vp_in_nI ?_ ?_ <;> first | omega | decide) | (with_reducible refine Nat.le_of_ble_eq_true ?_; rfl) | omega | exact Or.inl trivial | exact Or.inr trivial | exact Or.inl rfl | exact Or.inr rfl)
        · intro zc23
          first | exact absurd rfl zc23 | exact absurd zc23 (by decide) | exact absurd (by decide) zc23 | (exfalso; first | exact absurd zc5 (by decide) | exact absurd zc12 (by decide) | exact absurd zc17 (by decide) | exact absurd zc23 (by decide) | exact absurd zc50 (by decide) | exact absurd zc64 (by decide) | exact zc50 rfl | exact zc64 rfl) | (exfalso; simp_all; done)
        · intro zc23
          with_reducible first | have ze23 := Int32.not_lt.mp zc23 | have ze23 := zc23
          refine hB bX10_heard_26 _ _ _ _ _ _ _ kX10_heard_26 ?_
          dsimp only [bX10_heard_26, kx_wp, kx_step, kx_lI, kx_lL, kx_lA, kx_gl, kx_pI, kx_pL, kx_pR, kx_pA, kx_pV, kx_s1, kx_s2, kx_sl, kx_pre, kx_c2, kx_pl, kx_cmp, kx_oF, kx_eqN, kx_nil, kx_c1, kx_ft, kx_aI, kx_aL, kx_aR, kx_ln, Nat.reduceAdd, Option.toList, List.cons_append, List.nil_append, cf10_9, cf10_6, cf7_7, cf7_8]
          repeat (simp only [h64, h64s, hO, hip, him, sW_71, e7, e8, ks_eq, ks_ss]; try dsimp only [kx_wp, kx_step, kx_lI, kx_lL, kx_lA, kx_gl, kx_pI, kx_pL, kx_pR, kx_pA, kx_pV, kx_s1, kx_s2, kx_sl, kx_pre, kx_c2, kx_pl, kx_cmp, kx_oF, kx_eqN, kx_nil, kx_c1, kx_ft, kx_aI, kx_aL, kx_aR, kx_ln, Nat.reduceAdd, Option.toList, List.cons_append, List.nil_append, cf10_9, cf10_6, cf7_7, cf7_8])
          repeat' apply And.intro
          all_goals try (first | with_reducible assumption | (with_reducible refine ck_nzI ?_; simp; done) | (with_reducible refine ck_nzL ?_; simp; done) | (with_reducible refine vp_in_nI ?_ ?_ <;> first | omega | decide) | (with_reducible refine Nat.le_of_ble_eq_true ?_; rfl) | omega | exact Or.inl trivial | exact Or.inr trivial | exact Or.inl rfl | exact Or.inr rfl)
          refine hC.2.1 95 _ _ _ _ _ _ _ _ _ _ _ _ _ _ _ _ _ lX10_95 (ct_X10_need l G (b := 1) (by decide)) rfl rfl (Nat.le_of_ble_eq_true rfl) (by first | decide | omega) (by decide) (by omega) (by omega) dX10_heard_31 ?_
          refine hB bX10_heard_34 _ _ _ _ _ _ _ kX10_heard_34 ?_
          dsimp only [bX10_heard_34, kx_wp, kx_step, kx_lI, kx_lL, kx_lA, kx_gl, kx_pI, kx_pL, kx_pR, kx_pA, kx_pV, kx_s1, kx_s2, kx_sl, kx_pre, kx_c2, kx_pl, kx_cmp, kx_oF, kx_eqN, kx_nil, kx_c1, kx_ft, kx_aI, kx_aL, kx_aR, kx_ln, Nat.reduceAdd, Option.toList, List.cons_append, List.nil_append, cf10_9, cf10_6, cf7_7, cf7_8]
          repeat (simp only [h64, h64s, hO, hip, him, sW_71, e7, e8, ks_eq, ks_ss]; try dsimp only [kx_wp, kx_step, kx_lI, kx_lL, kx_lA, kx_gl, kx_pI, kx_pL, kx_pR, kx_pA, kx_pV, kx_s1, kx_s2, kx_sl, kx_pre, kx_c2, kx_pl, kx_cmp, kx_oF, kx_eqN, kx_nil, kx_c1, kx_ft, kx_aI, kx_aL, kx_aR, kx_ln, Nat.reduceAdd, Option.toList, List.cons_append, List.nil_append, cf10_9, cf10_6, cf7_7, cf7_8])
          repeat' apply And.intro
          all_goals try (first | with_reducible assumption | (with_reducible refine ck_nzI ?_; simp; done) | (with_reducible refine ck_nzL ?_; simp; done) | (with_reducible refine vp_in_nI ?_ ?_ <;> first | omega | decide) | (with_reducible refine Nat.le_of_ble_eq_true ?_; rfl) | omega | exact Or.inl trivial | exact Or.inr trivial | exact Or.inl rfl | exact Or.inr rfl)
          refine hC.1 239 _ _ _ _ _ _ _ 7 _ _ _ _ _ _ _ _ _ _ _ _ lX10_239 (hm9) ⟨by decide, rfl⟩ (hO) rfl rfl (Nat.le_of_ble_eq_true rfl) (by first | decide | omega) (by decide) (by omega) (by omega) dX10_heard_45 ?_
          refine hB bX10_heard_48 _ _ _ _ _ _ _ kX10_heard_48 ?_
          dsimp only [bX10_heard_48, kx_wp, kx_step, kx_lI, kx_lL, kx_lA, kx_gl, kx_pI, kx_pL, kx_pR, kx_pA, kx_pV, kx_s1, kx_s2, kx_sl, kx_pre, kx_c2, kx_pl, kx_cmp, kx_oF, kx_eqN, kx_nil, kx_c1, kx_ft, kx_aI, kx_aL, kx_aR, kx_ln, Nat.reduceAdd, Option.toList, List.cons_append, List.nil_append, cf10_9, cf10_6, cf7_7, cf7_8]
          repeat (simp only [h64, h64s, hO, hip, him, sW_71, e7, e8, ks_eq, ks_ss]; try dsimp only [kx_wp, kx_step, kx_lI, kx_lL, kx_lA, kx_gl, kx_pI, kx_pL, kx_pR, kx_pA, kx_pV, kx_s1, kx_s2, kx_sl, kx_pre, kx_c2, kx_pl, kx_cmp, kx_oF, kx_eqN, kx_nil, kx_c1, kx_ft, kx_aI, kx_aL, kx_aR, kx_ln, Nat.reduceAdd, Option.toList, List.cons_append, List.nil_append, cf10_9, cf10_6, cf7_7, cf7_8])
          repeat' apply And.intro
          all_goals try (first | with_reducible assumption | (with_reducible refine ck_nzI ?_; simp; done) | (with_reducible refine ck_nzL ?_; simp; done) | (with_reducible refine vp_in_nI ?_ ?_ <;> first | omega | decide) | (with_reducible refine Nat.le_of_ble_eq_true ?_; rfl) | omega | exact Or.inl trivial | exact Or.inr trivial | exact Or.inl rfl | exact Or.inr rfl)
          · intro zc50
            have ze50 := zc50
            refine hB bX10_heard_61 _ _ _ _ _ _ _ kX10_heard_61 ?_
            dsimp only [bX10_heard_61, kx_wp, kx_step, kx_lI, kx_lL, kx_lA, kx_gl, kx_pI, kx_pL, kx_pR, kx_pA, kx_pV, kx_s1, kx_s2, kx_sl, kx_pre, kx_c2, kx_pl, kx_cmp, kx_oF, kx_eqN, kx_nil, kx_c1, kx_ft, kx_aI, kx_aL, kx_aR, kx_ln, Nat.reduceAdd, Option.toList, List.cons_append, List.nil_append, cf10_9, cf10_6, cf7_7, cf7_8]
            repeat (simp only [h64, h64s, hO, hip, him, sW_71, e7, e8, ks_eq, ks_ss]; try dsimp only [kx_wp, kx_step, kx_lI, kx_lL, kx_lA, kx_gl, kx_pI, kx_pL, kx_pR, kx_pA, kx_pV, kx_s1, kx_s2, kx_sl, kx_pre, kx_c2, kx_pl, kx_cmp, kx_oF, kx_eqN, kx_nil, kx_c1, kx_ft, kx_aI, kx_aL, kx_aR, kx_ln, Nat.reduceAdd, Option.toList, List.cons_append, List.nil_append, cf10_9, cf10_6, cf7_7, cf7_8])
            repeat' apply And.intro
            all_goals try (first | with_reducible assumption | (with_reducible refine ck_nzI ?_; simp; done) | (with_reducible refine ck_nzL ?_; simp; done) | (with_reducible refine vp_in_nI ?_ ?_ <;> first | omega | decide) | (with_reducible refine Nat.le_of_ble_eq_true ?_; rfl) | omega | exact Or.inl trivial | exact Or.inr trivial | exact Or.inl rfl | exact Or.inr rfl)
            · intro zc64
              have ze64 := zc64
              refine hB bX10_heard_77 _ _ _ _ _ _ _ kX10_heard_77 ?_
              dsimp only [bX10_heard_77, kx_wp, kx_step, kx_lI, kx_lL, kx_lA, kx_gl, kx_pI, kx_pL, kx_pR, kx_pA, kx_pV, kx_s1, kx_s2, kx_sl, kx_pre, kx_c2, kx_pl, kx_cmp, kx_oF, kx_eqN, kx_nil, kx_c1, kx_ft, kx_aI, kx_aL, kx_aR, kx_ln, Nat.reduceAdd, Option.toList, List.cons_append, List.nil_append, cf10_9, cf10_6, cf7_7, cf7_8]
              repeat (simp only [h64, h64s, hO, hip, him, sW_71, e7, e8, ks_eq, ks_ss]; try dsimp only [kx_wp, kx_step, kx_lI, kx_lL, kx_lA, kx_gl, kx_pI, kx_pL, kx_pR, kx_pA, kx_pV, kx_s1, kx_s2, kx_sl, kx_pre, kx_c2, kx_pl, kx_cmp, kx_oF, kx_eqN, kx_nil, kx_c1, kx_ft, kx_aI, kx_aL, kx_aR, kx_ln, Nat.reduceAdd, Option.toList, List.cons_append, List.nil_append, cf10_9, cf10_6, cf7_7, cf7_8])
              repeat' apply And.intro
              all_goals try (first | with_reducible assumption | (with_reducible refine ck_nzI ?_; simp; done) | (with_reducible refine ck_nzL ?_; simp; done) | (with_reducible refine vp_in_nI ?_ ?_ <;> first | omega | decide) | (with_reducible refine Nat.le_of_ble_eq_true ?_; rfl) | omega | exact Or.inl trivial | exact Or.inr trivial | exact Or.inl rfl | exact Or.inr rfl)
              refine hB bX10_heard_84 _ _ _ _ _ _ _ kX10_heard_84 ?_
              dsimp only [bX10_heard_84, kx_wp, kx_step, kx_lI, kx_lL, kx_lA, kx_gl, kx_pI, kx_pL, kx_pR, kx_pA, kx_pV, kx_s1, kx_s2, kx_sl, kx_pre, kx_c2, kx_pl, kx_cmp, kx_oF, kx_eqN, kx_nil, kx_c1, kx_ft, kx_aI, kx_aL, kx_aR, kx_ln, Nat.reduceAdd, Option.toList, List.cons_append, List.nil_append, cf10_9, cf10_6, cf7_7, cf7_8]
              repeat (simp only [h64, h64s, hO, hip, him, sW_71, e7, e8, ks_eq, ks_ss]; try dsimp only [kx_wp, kx_step, kx_lI, kx_lL, kx_lA, kx_gl, kx_pI, kx_pL, kx_pR, kx_pA, kx_pV, kx_s1, kx_s2, kx_sl, kx_pre, kx_c2, kx_pl, kx_cmp, kx_oF, kx_eqN, kx_nil, kx_c1, kx_ft, kx_aI, kx_aL, kx_aR, kx_ln, Nat.reduceAdd, Option.toList, List.cons_append, List.nil_append, cf10_9, cf10_6, cf7_7, cf7_8])
              all_goals (repeat' apply And.intro)
              all_goals ((try clear hB hC); first | exact True.intro | with_reducible rfl | with_reducible assumption | (with_reducible refine vp_in_nI ?_ ?_ <;> first | omega | decide) | exact Nat.le_of_ble_eq_true rfl | (with_reducible refine ck_nzI ?_; simp; done) | (with_reducible refine ck_nzL ?_; simp; done) | (simp only [pk_us, pk_uLs, ze5, ze12, zc17, ze17, zc23, ze23, ze50, ze64, ↓reduceIte, not_true_eq_false, not_false_eq_true]; done) | (simp only [ze5, ze12, zc17, ze17, zc23, ze23, ze50, ze64, ↓reduceIte, not_true_eq_false, not_false_eq_true]; with_reducible rfl) | omega | skip)
            · intro zc64
              first | exact absurd rfl zc64 | exact absurd zc64 (by decide) | exact absurd (by decide) zc64 | (exfalso; first | exact absurd zc5 (by decide) | exact absurd zc12 (by decide) | exact absurd zc17 (by decide) | exact absurd zc23 (by decide) | exact absurd zc50 (by decide) | exact absurd zc64 (by decide) | exact zc50 rfl | exact zc64 rfl) | (exfalso; simp_all; done)
          · intro zc50
            first | exact absurd rfl zc50 | exact absurd zc50 (by decide) | exact absurd (by decide) zc50 | (exfalso; first | exact absurd zc5 (by decide) | exact absurd zc12 (by decide) | exact absurd zc17 (by decide) | exact absurd zc23 (by decide) | exact absurd zc50 (by decide) | exact absurd zc64 (by decide) | exact zc50 rfl | exact zc64 rfl) | (exfalso; simp_all; done)

set_option maxRecDepth 100000 in
set_option maxHeartbeats 4000000 in
theorem ct_X10_heard_b (l : Launch) (G : kx_G) (hst : l.stackTraces = false) {P : kx_P} {sz : Nat} {x y z w : Int32} (hb : ¬ (cx_ip x y = 1 ∧ cx_im z = 1 ∧ 0 ≤ w ∧ w ≤ 2)) (hq1 : cx_ip x y = 0 ∨ cx_ip x y = 1) (hq2 : cx_im z = 0 ∨ cx_im z = 1)  : kx_X l G sX10_heard 7 [.ref 64, .int (x), .int (y), .int (z), .int (w)] P sz "java/lang/IllegalArgumentException" := by
  refine kx_mkx hst kx_tab kxLok_X10 [some (.ref 64), some (.int (x)), some (.int (y)), some (.int (z)), some (.int (w))] ⟨by decide, rfl, by decide⟩ rfl rfl (fun g hB hC hX hT => ?_)
  refine hB bX10_heard_0 _ _ _ _ _ _ _ kX10_heard_0 ?_
  dsimp only [bX10_heard_0, kx_wp, kx_step, kx_lI, kx_lL, kx_lA, kx_gl, kx_pI, kx_pL, kx_pR, kx_pA, kx_pV, kx_s1, kx_s2, kx_sl, kx_pre, kx_c2, kx_pl, kx_cmp, kx_oF, kx_eqN, kx_nil, kx_c1, kx_ft, kx_aI, kx_aL, kx_aR, kx_ln, Nat.reduceAdd, Option.toList, List.cons_append, List.nil_append, cf10_9, cf10_6, cf7_7, cf7_8]
  repeat (simp only [ks_eq, ks_ss]; try dsimp only [kx_wp, kx_step, kx_lI, kx_lL, kx_lA, kx_gl, kx_pI, kx_pL, kx_pR, kx_pA, kx_pV, kx_s1, kx_s2, kx_sl, kx_pre, kx_c2, kx_pl, kx_cmp, kx_oF, kx_eqN, kx_nil, kx_c1, kx_ft, kx_aI, kx_aL, kx_aR, kx_ln, Nat.reduceAdd, Option.toList, List.cons_append, List.nil_append, cf10_9, cf10_6, cf7_7, cf7_8])
  repeat' apply And.intro
  all_goals try (first | with_reducible assumption | (with_reducible refine ck_nzI ?_; simp; done) | (with_reducible refine ck_nzL ?_; simp; done) | (with_reducible refine vp_in_nI ?_ ?_ <;> first | omega | decide) | (with_reducible refine Nat.le_of_ble_eq_true ?_; rfl) | omega | exact Or.inl trivial | exact Or.inr trivial | exact Or.inl rfl | exact Or.inr rfl)
  refine hC.2.1 111 _ _ _ _ _ _ _ _ _ _ _ _ _ _ _ _ _ lX10_111 (ct_X10_isPlace l G) rfl rfl (Nat.le_of_ble_eq_true rfl) (by first | decide | omega) (by decide) (by omega) (by omega) dX10_heard_2 ?_
  refine hB bX10_heard_5 _ _ _ _ _ _ _ kX10_heard_5 ?_
  dsimp only [bX10_heard_5, kx_wp, kx_step, kx_lI, kx_lL, kx_lA, kx_gl, kx_pI, kx_pL, kx_pR, kx_pA, kx_pV, kx_s1, kx_s2, kx_sl, kx_pre, kx_c2, kx_pl, kx_cmp, kx_oF, kx_eqN, kx_nil, kx_c1, kx_ft, kx_aI, kx_aL, kx_aR, kx_ln, Nat.reduceAdd, Option.toList, List.cons_append, List.nil_append, cf10_9, cf10_6, cf7_7, cf7_8]
  repeat (simp only [ks_eq, ks_ss]; try dsimp only [kx_wp, kx_step, kx_lI, kx_lL, kx_lA, kx_gl, kx_pI, kx_pL, kx_pR, kx_pA, kx_pV, kx_s1, kx_s2, kx_sl, kx_pre, kx_c2, kx_pl, kx_cmp, kx_oF, kx_eqN, kx_nil, kx_c1, kx_ft, kx_aI, kx_aL, kx_aR, kx_ln, Nat.reduceAdd, Option.toList, List.cons_append, List.nil_append, cf10_9, cf10_6, cf7_7, cf7_8])
  repeat' apply And.intro
  all_goals try (first | with_reducible assumption | (with_reducible refine ck_nzI ?_; simp; done) | (with_reducible refine ck_nzL ?_; simp; done) | (with_reducible refine vp_in_nI ?_ ?_ <;> first | omega | decide) | (with_reducible refine Nat.le_of_ble_eq_true ?_; rfl) | omega | exact Or.inl trivial | exact Or.inr trivial | exact Or.inl rfl | exact Or.inr rfl)
  · intro zc5
    have ze5 := zc5
    refine hB bX10_heard_30 _ _ _ _ _ _ _ kX10_heard_30 ?_
    dsimp only [bX10_heard_30, kx_wp, kx_step, kx_lI, kx_lL, kx_lA, kx_gl, kx_pI, kx_pL, kx_pR, kx_pA, kx_pV, kx_s1, kx_s2, kx_sl, kx_pre, kx_c2, kx_pl, kx_cmp, kx_oF, kx_eqN, kx_nil, kx_c1, kx_ft, kx_aI, kx_aL, kx_aR, kx_ln, Nat.reduceAdd, Option.toList, List.cons_append, List.nil_append, cf10_9, cf10_6, cf7_7, cf7_8]
    repeat (simp only [ks_eq, ks_ss]; try dsimp only [kx_wp, kx_step, kx_lI, kx_lL, kx_lA, kx_gl, kx_pI, kx_pL, kx_pR, kx_pA, kx_pV, kx_s1, kx_s2, kx_sl, kx_pre, kx_c2, kx_pl, kx_cmp, kx_oF, kx_eqN, kx_nil, kx_c1, kx_ft, kx_aI, kx_aL, kx_aR, kx_ln, Nat.reduceAdd, Option.toList, List.cons_append, List.nil_append, cf10_9, cf10_6, cf7_7, cf7_8])
    repeat' apply And.intro
    all_goals try (first | with_reducible assumption | (with_reducible refine ck_nzI ?_; simp; done) | (with_reducible refine ck_nzL ?_; simp; done) | (with_reducible refine vp_in_nI ?_ ?_ <;> first | omega | decide) | (with_reducible refine Nat.le_of_ble_eq_true ?_; rfl) | omega | exact Or.inl trivial | exact Or.inr trivial | exact Or.inl rfl | exact Or.inr rfl)
    exact hX.2 95 _ _ _ _ _ _ _ _ lX10_95 (ct_X10_need_x l G hst) rfl rfl (Nat.le_of_ble_eq_true rfl) (by first | decide | omega) (by decide) dX10_heard_31
  · intro zc5
    have ze5 := zc5
    refine hB bX10_heard_8 _ _ _ _ _ _ _ kX10_heard_8 ?_
    dsimp only [bX10_heard_8, kx_wp, kx_step, kx_lI, kx_lL, kx_lA, kx_gl, kx_pI, kx_pL, kx_pR, kx_pA, kx_pV, kx_s1, kx_s2, kx_sl, kx_pre, kx_c2, kx_pl, kx_cmp, kx_oF, kx_eqN, kx_nil, kx_c1, kx_ft, kx_aI, kx_aL, kx_aR, kx_ln, Nat.reduceAdd, Option.toList, List.cons_append, List.nil_append, cf10_9, cf10_6, cf7_7, cf7_8]
    repeat (simp only [ks_eq, ks_ss]; try dsimp only [kx_wp, kx_step, kx_lI, kx_lL, kx_lA, kx_gl, kx_pI, kx_pL, kx_pR, kx_pA, kx_pV, kx_s1, kx_s2, kx_sl, kx_pre, kx_c2, kx_pl, kx_cmp, kx_oF, kx_eqN, kx_nil, kx_c1, kx_ft, kx_aI, kx_aL, kx_aR, kx_ln, Nat.reduceAdd, Option.toList, List.cons_append, List.nil_append, cf10_9, cf10_6, cf7_7, cf7_8])
    repeat' apply And.intro
    all_goals try (first | with_reducible assumption | (with_reducible refine ck_nzI ?_; simp; done) | (with_reducible refine ck_nzL ?_; simp; done) | (with_reducible refine vp_in_nI ?_ ?_ <;> first | omega | decide) | (with_reducible refine Nat.le_of_ble_eq_true ?_; rfl) | omega | exact Or.inl trivial | exact Or.inr trivial | exact Or.inl rfl | exact Or.inr rfl)
    refine hC.2.1 236 _ _ _ _ _ _ _ _ _ _ _ _ _ _ _ _ _ lX10_236 (ct_X10_isMinute l G) rfl rfl (Nat.le_of_ble_eq_true rfl) (by first | decide | omega) (by decide) (by omega) (by omega) dX10_heard_9 ?_
    refine hB bX10_heard_12 _ _ _ _ _ _ _ kX10_heard_12 ?_
    dsimp only [bX10_heard_12, kx_wp, kx_step, kx_lI, kx_lL, kx_lA, kx_gl, kx_pI, kx_pL, kx_pR, kx_pA, kx_pV, kx_s1, kx_s2, kx_sl, kx_pre, kx_c2, kx_pl, kx_cmp, kx_oF, kx_eqN, kx_nil, kx_c1, kx_ft, kx_aI, kx_aL, kx_aR, kx_ln, Nat.reduceAdd, Option.toList, List.cons_append, List.nil_append, cf10_9, cf10_6, cf7_7, cf7_8]
    repeat (simp only [ks_eq, ks_ss]; try dsimp only [kx_wp, kx_step, kx_lI, kx_lL, kx_lA, kx_gl, kx_pI, kx_pL, kx_pR, kx_pA, kx_pV, kx_s1, kx_s2, kx_sl, kx_pre, kx_c2, kx_pl, kx_cmp, kx_oF, kx_eqN, kx_nil, kx_c1, kx_ft, kx_aI, kx_aL, kx_aR, kx_ln, Nat.reduceAdd, Option.toList, List.cons_append, List.nil_append, cf10_9, cf10_6, cf7_7, cf7_8])
    repeat' apply And.intro
    all_goals try (first | with_reducible assumption | (with_reducible refine ck_nzI ?_; simp; done) | (with_reducible refine ck_nzL ?_; simp; done) | (with_reducible refine vp_in_nI ?_ ?_ <;> first | omega | decide) | (with_reducible refine Nat.le_of_ble_eq_true ?_; rfl) | omega | exact Or.inl trivial | exact Or.inr trivial | exact Or.inl rfl | exact Or.inr rfl)
    · intro zc12
      have ze12 := zc12
      refine hB bX10_heard_30 _ _ _ _ _ _ _ kX10_heard_30 ?_
      dsimp only [bX10_heard_30, kx_wp, kx_step, kx_lI, kx_lL, kx_lA, kx_gl, kx_pI, kx_pL, kx_pR, kx_pA, kx_pV, kx_s1, kx_s2, kx_sl, kx_pre, kx_c2, kx_pl, kx_cmp, kx_oF, kx_eqN, kx_nil, kx_c1, kx_ft, kx_aI, kx_aL, kx_aR, kx_ln, Nat.reduceAdd, Option.toList, List.cons_append, List.nil_append, cf10_9, cf10_6, cf7_7, cf7_8]
      repeat (simp only [ks_eq, ks_ss]; try dsimp only [kx_wp, kx_step, kx_lI, kx_lL, kx_lA, kx_gl, kx_pI, kx_pL, kx_pR, kx_pA, kx_pV, kx_s1, kx_s2, kx_sl, kx_pre, kx_c2, kx_pl, kx_cmp, kx_oF, kx_eqN, kx_nil, kx_c1, kx_ft, kx_aI, kx_aL, kx_aR, kx_ln, Nat.reduceAdd, Option.toList, List.cons_append, List.nil_append, cf10_9, cf10_6, cf7_7, cf7_8])
      repeat' apply And.intro
      all_goals try (first | with_reducible assumption | (with_reducible refine ck_nzI ?_; simp; done) | (with_reducible refine ck_nzL ?_; simp; done) | (with_reducible refine vp_in_nI ?_ ?_ <;> first | omega | decide) | (with_reducible refine Nat.le_of_ble_eq_true ?_; rfl) | omega | exact Or.inl trivial | exact Or.inr trivial | exact Or.inl rfl | exact Or.inr rfl)
      exact hX.2 95 _ _ _ _ _ _ _ _ lX10_95 (ct_X10_need_x l G hst) rfl rfl (Nat.le_of_ble_eq_true rfl) (by first | decide | omega) (by decide) dX10_heard_31
    · intro zc12
      have ze12 := zc12
      refine hB bX10_heard_15 _ _ _ _ _ _ _ kX10_heard_15 ?_
      dsimp only [bX10_heard_15, kx_wp, kx_step, kx_lI, kx_lL, kx_lA, kx_gl, kx_pI, kx_pL, kx_pR, kx_pA, kx_pV, kx_s1, kx_s2, kx_sl, kx_pre, kx_c2, kx_pl, kx_cmp, kx_oF, kx_eqN, kx_nil, kx_c1, kx_ft, kx_aI, kx_aL, kx_aR, kx_ln, Nat.reduceAdd, Option.toList, List.cons_append, List.nil_append, cf10_9, cf10_6, cf7_7, cf7_8]
      repeat (simp only [ks_eq, ks_ss]; try dsimp only [kx_wp, kx_step, kx_lI, kx_lL, kx_lA, kx_gl, kx_pI, kx_pL, kx_pR, kx_pA, kx_pV, kx_s1, kx_s2, kx_sl, kx_pre, kx_c2, kx_pl, kx_cmp, kx_oF, kx_eqN, kx_nil, kx_c1, kx_ft, kx_aI, kx_aL, kx_aR, kx_ln, Nat.reduceAdd, Option.toList, List.cons_append, List.nil_append, cf10_9, cf10_6, cf7_7, cf7_8])
      repeat' apply And.intro
      all_goals try (first | with_reducible assumption | (with_reducible refine ck_nzI ?_; simp; done) | (with_reducible refine ck_nzL ?_; simp; done) | (with_reducible refine vp_in_nI ?_ ?_ <;> first | omega | decide) | (with_reducible refine Nat.le_of_ble_eq_true ?_; rfl) | omega | exact Or.inl trivial | exact Or.inr trivial | exact Or.inl rfl | exact Or.inr rfl)
      · intro zc17
        with_reducible first | have ze17 := Int32.not_le.mpr zc17 | have ze17 := zc17
        refine hB bX10_heard_30 _ _ _ _ _ _ _ kX10_heard_30 ?_
        dsimp only [bX10_heard_30, kx_wp, kx_step, kx_lI, kx_lL, kx_lA, kx_gl, kx_pI, kx_pL, kx_pR, kx_pA, kx_pV, kx_s1, kx_s2, kx_sl, kx_pre, kx_c2, kx_pl, kx_cmp, kx_oF, kx_eqN, kx_nil, kx_c1, kx_ft, kx_aI, kx_aL, kx_aR, kx_ln, Nat.reduceAdd, Option.toList, List.cons_append, List.nil_append, cf10_9, cf10_6, cf7_7, cf7_8]
        repeat (simp only [ks_eq, ks_ss]; try dsimp only [kx_wp, kx_step, kx_lI, kx_lL, kx_lA, kx_gl, kx_pI, kx_pL, kx_pR, kx_pA, kx_pV, kx_s1, kx_s2, kx_sl, kx_pre, kx_c2, kx_pl, kx_cmp, kx_oF, kx_eqN, kx_nil, kx_c1, kx_ft, kx_aI, kx_aL, kx_aR, kx_ln, Nat.reduceAdd, Option.toList, List.cons_append, List.nil_append, cf10_9, cf10_6, cf7_7, cf7_8])
        repeat' apply And.intro
        all_goals try (first | with_reducible assumption | (with_reducible refine ck_nzI ?_; simp; done) | (with_reducible refine ck_nzL ?_; simp; done) | (with_reducible refine vp_in_nI ?_ ?_ <;> first | omega | decide) | (with_reducible refine Nat.le_of_ble_eq_true ?_; rfl) | omega | exact Or.inl trivial | exact Or.inr trivial | exact Or.inl rfl | exact Or.inr rfl)
        exact hX.2 95 _ _ _ _ _ _ _ _ lX10_95 (ct_X10_need_x l G hst) rfl rfl (Nat.le_of_ble_eq_true rfl) (by first | decide | omega) (by decide) dX10_heard_31
      · intro zc17
        with_reducible first | have ze17 := Int32.not_lt.mp zc17 | have ze17 := zc17
        refine hB bX10_heard_20 _ _ _ _ _ _ _ kX10_heard_20 ?_
        dsimp only [bX10_heard_20, kx_wp, kx_step, kx_lI, kx_lL, kx_lA, kx_gl, kx_pI, kx_pL, kx_pR, kx_pA, kx_pV, kx_s1, kx_s2, kx_sl, kx_pre, kx_c2, kx_pl, kx_cmp, kx_oF, kx_eqN, kx_nil, kx_c1, kx_ft, kx_aI, kx_aL, kx_aR, kx_ln, Nat.reduceAdd, Option.toList, List.cons_append, List.nil_append, cf10_9, cf10_6, cf7_7, cf7_8]
        repeat (simp only [ks_eq, ks_ss]; try dsimp only [kx_wp, kx_step, kx_lI, kx_lL, kx_lA, kx_gl, kx_pI, kx_pL, kx_pR, kx_pA, kx_pV, kx_s1, kx_s2, kx_sl, kx_pre, kx_c2, kx_pl, kx_cmp, kx_oF, kx_eqN, kx_nil, kx_c1, kx_ft, kx_aI, kx_aL, kx_aR, kx_ln, Nat.reduceAdd, Option.toList, List.cons_append, List.nil_append, cf10_9, cf10_6, cf7_7, cf7_8])
        repeat' apply And.intro
        all_goals try (first | with_reducible assumption | (with_reducible refine ck_nzI ?_; simp; done) | (with_reducible refine ck_nzL ?_; simp; done) | (with_reducible refine vp_in_nI ?_ ?_ <;> first | omega | decide) | (with_reducible refine Nat.le_of_ble_eq_true ?_; rfl) | omega | exact Or.inl trivial | exact Or.inr trivial | exact Or.inl rfl | exact Or.inr rfl)
        · intro zc23
          with_reducible first | have ze23 := Int32.not_le.mpr zc23 | have ze23 := zc23
          refine hB bX10_heard_30 _ _ _ _ _ _ _ kX10_heard_30 ?_
          dsimp only [bX10_heard_30, kx_wp, kx_step, kx_lI, kx_lL, kx_lA, kx_gl, kx_pI, kx_pL, kx_pR, kx_pA, kx_pV, kx_s1, kx_s2, kx_sl, kx_pre, kx_c2, kx_pl, kx_cmp, kx_oF, kx_eqN, kx_nil, kx_c1, kx_ft, kx_aI, kx_aL, kx_aR, kx_ln, Nat.reduceAdd, Option.toList, List.cons_append, List.nil_append, cf10_9, cf10_6, cf7_7, cf7_8]
          repeat (simp only [ks_eq, ks_ss]; try dsimp only [kx_wp, kx_step, kx_lI, kx_lL, kx_lA, kx_gl, kx_pI, kx_pL, kx_pR, kx_pA, kx_pV, kx_s1, kx_s2, kx_sl, kx_pre, kx_c2, kx_pl, kx_cmp, kx_oF, kx_eqN, kx_nil, kx_c1, kx_ft, kx_aI, kx_aL, kx_aR, kx_ln, Nat.reduceAdd, Option.toList, List.cons_append, List.nil_append, cf10_9, cf10_6, cf7_7, cf7_8])
          repeat' apply And.intro
          all_goals try (first | with_reducible assumption | (with_reducible refine ck_nzI ?_; simp; done) | (with_reducible refine ck_nzL ?_; simp; done) | (with_reducible refine vp_in_nI ?_ ?_ <;> first | omega | decide) | (with_reducible refine Nat.le_of_ble_eq_true ?_; rfl) | omega | exact Or.inl trivial | exact Or.inr trivial | exact Or.inl rfl | exact Or.inr rfl)
          exact hX.2 95 _ _ _ _ _ _ _ _ lX10_95 (ct_X10_need_x l G hst) rfl rfl (Nat.le_of_ble_eq_true rfl) (by first | decide | omega) (by decide) dX10_heard_31
        · intro zc23
          with_reducible first | have ze23 := Int32.not_lt.mp zc23 | have ze23 := zc23
          exact absurd ⟨hq1.resolve_left zc5, hq2.resolve_left zc12, ze17, ze23⟩ hb

def bX10_witness_0 : List kx_O := [(.iload_n 1, 1, 0, 0, .null), (.iload_n 2, 2, 0, 0, .null)]
theorem kX10_witness_0 : kx_oks kxL_X10 false cX10_witness 0 bX10_witness_0 = true := by decide +kernel
def bX10_witness_5 : List kx_O := [(.ifCond .eq 18, 23, 0, 0, .null)]
theorem kX10_witness_5 : kx_oks kxL_X10 false cX10_witness 5 bX10_witness_5 = true := by decide +kernel
def bX10_witness_8 : List kx_O := [(.iload_n 3, 3, 0, 0, .null), (.iconst 1, 0, 0, 0, .int 1), (.if_icmp .lt 13, 23, 0, 0, .null)]
theorem kX10_witness_8 : kx_oks kxL_X10 false cX10_witness 8 bX10_witness_8 = true := by decide +kernel
def bX10_witness_13 : List kx_O := [(.iload_n 3, 3, 0, 0, .null), (.bipush 12, 0, 0, 0, .int 12), (.if_icmp .gt 7, 23, 0, 0, .null)]
theorem kX10_witness_13 : kx_oks kxL_X10 false cX10_witness 13 bX10_witness_13 = true := by decide +kernel
def bX10_witness_19 : List kx_O := [(.iconst 1, 0, 0, 0, .int 1), (.goto 4, 24, 0, 0, .null)]
theorem kX10_witness_19 : kx_oks kxL_X10 false cX10_witness 19 bX10_witness_19 = true := by decide +kernel
def bX10_witness_23 : List kx_O := [(.iconst 0, 0, 0, 0, .int 0)]
theorem kX10_witness_23 : kx_oks kxL_X10 false cX10_witness 23 bX10_witness_23 = true := by decide +kernel
def bX10_witness_27 : List kx_O := [(.aload_n 0, 0, 0, 0, .null), (.getfield 57, 10, 9, 0, .null), (.aload_n 0, 0, 0, 0, .null), (.getfield 40, 10, 6, 0, .null), (.iload_n 1, 1, 0, 0, .null), (.iload_n 2, 2, 0, 0, .null), (.iload_n 3, 3, 0, 0, .null), (.iload 4, 4, 0, 0, .null)]
theorem kX10_witness_27 : kx_oks kxL_X10 false cX10_witness 27 bX10_witness_27 = true := by decide +kernel
def bX10_witness_43 : List kx_O := [(.ireturn, 0, 0, 0, .null)]
theorem kX10_witness_43 : kx_oks kxL_X10 false cX10_witness 43 bX10_witness_43 = true := by decide +kernel
theorem dX10_witness_2 : decode cX10_witness 2 = .ok (.invokestatic 111, 3) := by decide +kernel
theorem dX10_witness_24 : decode cX10_witness 24 = .ok (.invokestatic 95, 3) := by decide +kernel
theorem dX10_witness_40 : decode cX10_witness 40 = .ok (.invokevirtual 252, 3) := by decide +kernel
set_option maxRecDepth 100000 in
set_option maxHeartbeats 4000000 in
theorem ct_X10_witness_t (l : Launch) (G : kx_G) {P : kx_P} {sz : Nat} {sv : Value} {K : Nat → Int32} (h64 : P 64 = kO 10 (kf (cr10 sv) K)) {Fs X Y : Nat → Int32} (hO : P 71 = kO 7 (kf cr7 Fs)) (h76 : P 76 = kI 0 120 X) (h77 : P 77 = kI 0 120 Y) {q1 q2 q3 q4 : Nat → Int32} (hS : cx_SR P q1 q2 q3 q4) {sd cl : Nat} (h4 : Fs 4 = nI sd) (hsd : sd < 2 ^ 29) (hcl : cl ≤ 8) {cn wn : Nat → Nat} {DD : Nat → Int64} {HH : Nat → Value} {CC VV : Nat → Nat → Int32} (hCS : cx_CS P cl cn wn DD HH CC VV) (hso : cx_SO q1 q2 q3 q4 CC sd cl) {x y : Nat} (hx : x ≤ 99) (hy : y ≤ 99) (hip : cx_ip (nI x) (nI y) = 1) {hr k : Int32} (hr1 : 1 ≤ hr) (hr2 : hr ≤ 12)  : kx_Mn l G sX10_witness 6 0 0 [.ref 64, .int (nI x), .int (nI y), .int (hr), .int (k)] P sz (fun r P2 s2 => r = some (.int (cx_wi q2 (fun t => cx_tk CC VV q1 q2 q3 q4 (nI x) (nI y) t sd) hr sd (min sd 200) 0 k (-1))) ∧ (∃ F2 X2 Y2, P2 = sW P F2 X2 Y2 ∧ F2 4 = nI sd) ∧ s2 = sz) := by
  have hSW : sW P Fs X Y = P := by unfold sW; rw [ks_id h76, ks_id h77, ks_id hO]
  have hm9 := ct_X7_witnessOf l G (sz := sz) (F := Fs) (X := X) (Y := Y) hS h4 hsd hcl hCS hso hx hy (hr := hr) (kk := k)
  rw [hSW] at hm9
  refine kx_mkn kx_tab kxLok_X10 (ini := false) [some (.ref 64), some (.int (nI x)), some (.int (nI y)), some (.int (hr)), some (.int (k))] ⟨by decide, rfl, by decide, by decide⟩ (fun _ _ _ h => ⟨_, h.1⟩) rfl rfl (fun g hB hC hN => ?_)
  refine hB bX10_witness_0 _ _ _ _ _ _ _ kX10_witness_0 ?_
  dsimp only [bX10_witness_0, kx_wp, kx_step, kx_lI, kx_lL, kx_lA, kx_gl, kx_pI, kx_pL, kx_pR, kx_pA, kx_pV, kx_s1, kx_s2, kx_sl, kx_pre, kx_c2, kx_pl, kx_cmp, kx_oF, kx_eqN, kx_nil, kx_c1, kx_ft, kx_aI, kx_aL, kx_aR, kx_ln, Nat.reduceAdd, Option.toList, List.cons_append, List.nil_append, cf10_9, cf10_6]
  repeat (simp only [h64, hO, hip, ks_eq, ks_ss]; try dsimp only [kx_wp, kx_step, kx_lI, kx_lL, kx_lA, kx_gl, kx_pI, kx_pL, kx_pR, kx_pA, kx_pV, kx_s1, kx_s2, kx_sl, kx_pre, kx_c2, kx_pl, kx_cmp, kx_oF, kx_eqN, kx_nil, kx_c1, kx_ft, kx_aI, kx_aL, kx_aR, kx_ln, Nat.reduceAdd, Option.toList, List.cons_append, List.nil_append, cf10_9, cf10_6])
  repeat' apply And.intro
  all_goals try (first | with_reducible assumption | (with_reducible refine ck_nzI ?_; simp; done) | (with_reducible refine ck_nzL ?_; simp; done) | (with_reducible refine vp_in_nI ?_ ?_ <;> first | omega | decide) | (with_reducible refine Nat.le_of_ble_eq_true ?_; rfl) | omega | exact Or.inl trivial | exact Or.inr trivial | exact Or.inl rfl | exact Or.inr rfl)
  refine hC.2.1 111 _ _ _ _ _ _ _ _ _ _ _ _ _ _ _ _ _ lX10_111 (ct_X10_isPlace l G) rfl rfl (Nat.le_of_ble_eq_true rfl) (by first | decide | omega) (by decide) (by omega) (by omega) dX10_witness_2 ?_
  rw [hip]
  refine hB bX10_witness_5 _ _ _ _ _ _ _ kX10_witness_5 ?_
  dsimp only [bX10_witness_5, kx_wp, kx_step, kx_lI, kx_lL, kx_lA, kx_gl, kx_pI, kx_pL, kx_pR, kx_pA, kx_pV, kx_s1, kx_s2, kx_sl, kx_pre, kx_c2, kx_pl, kx_cmp, kx_oF, kx_eqN, kx_nil, kx_c1, kx_ft, kx_aI, kx_aL, kx_aR, kx_ln, Nat.reduceAdd, Option.toList, List.cons_append, List.nil_append, cf10_9, cf10_6]
  repeat (simp only [h64, hO, hip, ks_eq, ks_ss]; try dsimp only [kx_wp, kx_step, kx_lI, kx_lL, kx_lA, kx_gl, kx_pI, kx_pL, kx_pR, kx_pA, kx_pV, kx_s1, kx_s2, kx_sl, kx_pre, kx_c2, kx_pl, kx_cmp, kx_oF, kx_eqN, kx_nil, kx_c1, kx_ft, kx_aI, kx_aL, kx_aR, kx_ln, Nat.reduceAdd, Option.toList, List.cons_append, List.nil_append, cf10_9, cf10_6])
  repeat' apply And.intro
  all_goals try (first | with_reducible assumption | (with_reducible refine ck_nzI ?_; simp; done) | (with_reducible refine ck_nzL ?_; simp; done) | (with_reducible refine vp_in_nI ?_ ?_ <;> first | omega | decide) | (with_reducible refine Nat.le_of_ble_eq_true ?_; rfl) | omega | exact Or.inl trivial | exact Or.inr trivial | exact Or.inl rfl | exact Or.inr rfl)
  · intro zc5
    first | exact absurd rfl zc5 | exact absurd zc5 (by decide) | exact absurd (by decide) zc5 | (exfalso; first | exact absurd zc5 (by decide) | exact absurd hr1 (Int32.not_le.mpr zc10) | exact absurd hr2 (Int32.not_le.mpr zc16)) | (exfalso; simp_all; done)
  · intro zc5
    have ze5 := zc5
    refine hB bX10_witness_8 _ _ _ _ _ _ _ kX10_witness_8 ?_
    dsimp only [bX10_witness_8, kx_wp, kx_step, kx_lI, kx_lL, kx_lA, kx_gl, kx_pI, kx_pL, kx_pR, kx_pA, kx_pV, kx_s1, kx_s2, kx_sl, kx_pre, kx_c2, kx_pl, kx_cmp, kx_oF, kx_eqN, kx_nil, kx_c1, kx_ft, kx_aI, kx_aL, kx_aR, kx_ln, Nat.reduceAdd, Option.toList, List.cons_append, List.nil_append, cf10_9, cf10_6]
    repeat (simp only [h64, hO, hip, ks_eq, ks_ss]; try dsimp only [kx_wp, kx_step, kx_lI, kx_lL, kx_lA, kx_gl, kx_pI, kx_pL, kx_pR, kx_pA, kx_pV, kx_s1, kx_s2, kx_sl, kx_pre, kx_c2, kx_pl, kx_cmp, kx_oF, kx_eqN, kx_nil, kx_c1, kx_ft, kx_aI, kx_aL, kx_aR, kx_ln, Nat.reduceAdd, Option.toList, List.cons_append, List.nil_append, cf10_9, cf10_6])
    repeat' apply And.intro
    all_goals try (first | with_reducible assumption | (with_reducible refine ck_nzI ?_; simp; done) | (with_reducible refine ck_nzL ?_; simp; done) | (with_reducible refine vp_in_nI ?_ ?_ <;> first | omega | decide) | (with_reducible refine Nat.le_of_ble_eq_true ?_; rfl) | omega | exact Or.inl trivial | exact Or.inr trivial | exact Or.inl rfl | exact Or.inr rfl)
    · intro zc10
      first | exact absurd rfl zc10 | exact absurd zc10 (by decide) | exact absurd (by decide) zc10 | (exfalso; first | exact absurd zc5 (by decide) | exact absurd hr1 (Int32.not_le.mpr zc10) | exact absurd hr2 (Int32.not_le.mpr zc16)) | (exfalso; simp_all; done)
    · intro zc10
      with_reducible first | have ze10 := Int32.not_lt.mp zc10 | have ze10 := zc10
      refine hB bX10_witness_13 _ _ _ _ _ _ _ kX10_witness_13 ?_
      dsimp only [bX10_witness_13, kx_wp, kx_step, kx_lI, kx_lL, kx_lA, kx_gl, kx_pI, kx_pL, kx_pR, kx_pA, kx_pV, kx_s1, kx_s2, kx_sl, kx_pre, kx_c2, kx_pl, kx_cmp, kx_oF, kx_eqN, kx_nil, kx_c1, kx_ft, kx_aI, kx_aL, kx_aR, kx_ln, Nat.reduceAdd, Option.toList, List.cons_append, List.nil_append, cf10_9, cf10_6]
      repeat (simp only [h64, hO, hip, ks_eq, ks_ss]; try dsimp only [kx_wp, kx_step, kx_lI, kx_lL, kx_lA, kx_gl, kx_pI, kx_pL, kx_pR, kx_pA, kx_pV, kx_s1, kx_s2, kx_sl, kx_pre, kx_c2, kx_pl, kx_cmp, kx_oF, kx_eqN, kx_nil, kx_c1, kx_ft, kx_aI, kx_aL, kx_aR, kx_ln, Nat.reduceAdd, Option.toList, List.cons_append, List.nil_append, cf10_9, cf10_6])
      repeat' apply And.intro
      all_goals try (first | with_reducible assumption | (with_reducible refine ck_nzI ?_; simp; done) | (with_reducible refine ck_nzL ?_; simp; done) | (with_reducible refine vp_in_nI ?_ ?_ <;> first | omega | decide) | (with_reducible refine Nat.le_of_ble_eq_true ?_; rfl) | omega | exact Or.inl trivial | exact Or.inr trivial | exact Or.inl rfl | exact Or.inr rfl)
      · intro zc16
        first | exact absurd rfl zc16 | exact absurd zc16 (by decide) | exact absurd (by decide) zc16 | (exfalso; first | exact absurd zc5 (by decide) | exact absurd hr1 (Int32.not_le.mpr zc10) | exact absurd hr2 (Int32.not_le.mpr zc16)) | (exfalso; simp_all; done)
      · intro zc16
        with_reducible first | have ze16 := Int32.not_lt.mp zc16 | have ze16 := zc16
        refine hB bX10_witness_19 _ _ _ _ _ _ _ kX10_witness_19 ?_
        dsimp only [bX10_witness_19, kx_wp, kx_step, kx_lI, kx_lL, kx_lA, kx_gl, kx_pI, kx_pL, kx_pR, kx_pA, kx_pV, kx_s1, kx_s2, kx_sl, kx_pre, kx_c2, kx_pl, kx_cmp, kx_oF, kx_eqN, kx_nil, kx_c1, kx_ft, kx_aI, kx_aL, kx_aR, kx_ln, Nat.reduceAdd, Option.toList, List.cons_append, List.nil_append, cf10_9, cf10_6]
        repeat (simp only [h64, hO, hip, ks_eq, ks_ss]; try dsimp only [kx_wp, kx_step, kx_lI, kx_lL, kx_lA, kx_gl, kx_pI, kx_pL, kx_pR, kx_pA, kx_pV, kx_s1, kx_s2, kx_sl, kx_pre, kx_c2, kx_pl, kx_cmp, kx_oF, kx_eqN, kx_nil, kx_c1, kx_ft, kx_aI, kx_aL, kx_aR, kx_ln, Nat.reduceAdd, Option.toList, List.cons_append, List.nil_append, cf10_9, cf10_6])
        repeat' apply And.intro
        all_goals try (first | with_reducible assumption | (with_reducible refine ck_nzI ?_; simp; done) | (with_reducible refine ck_nzL ?_; simp; done) | (with_reducible refine vp_in_nI ?_ ?_ <;> first | omega | decide) | (with_reducible refine Nat.le_of_ble_eq_true ?_; rfl) | omega | exact Or.inl trivial | exact Or.inr trivial | exact Or.inl rfl | exact Or.inr rfl)
        refine hC.2.1 95 _ _ _ _ _ _ _ _ _ _ _ _ _ _ _ _ _ lX10_95 (ct_X10_need l G (b := 1) (by decide)) rfl rfl (Nat.le_of_ble_eq_true rfl) (by first | decide | omega) (by decide) (by omega) (by omega) dX10_witness_24 ?_
        refine hB bX10_witness_27 _ _ _ _ _ _ _ kX10_witness_27 ?_
        dsimp only [bX10_witness_27, kx_wp, kx_step, kx_lI, kx_lL, kx_lA, kx_gl, kx_pI, kx_pL, kx_pR, kx_pA, kx_pV, kx_s1, kx_s2, kx_sl, kx_pre, kx_c2, kx_pl, kx_cmp, kx_oF, kx_eqN, kx_nil, kx_c1, kx_ft, kx_aI, kx_aL, kx_aR, kx_ln, Nat.reduceAdd, Option.toList, List.cons_append, List.nil_append, cf10_9, cf10_6]
        repeat (simp only [h64, hO, hip, ks_eq, ks_ss]; try dsimp only [kx_wp, kx_step, kx_lI, kx_lL, kx_lA, kx_gl, kx_pI, kx_pL, kx_pR, kx_pA, kx_pV, kx_s1, kx_s2, kx_sl, kx_pre, kx_c2, kx_pl, kx_cmp, kx_oF, kx_eqN, kx_nil, kx_c1, kx_ft, kx_aI, kx_aL, kx_aR, kx_ln, Nat.reduceAdd, Option.toList, List.cons_append, List.nil_append, cf10_9, cf10_6])
        repeat' apply And.intro
        all_goals try (first | with_reducible assumption | (with_reducible refine ck_nzI ?_; simp; done) | (with_reducible refine ck_nzL ?_; simp; done) | (with_reducible refine vp_in_nI ?_ ?_ <;> first | omega | decide) | (with_reducible refine Nat.le_of_ble_eq_true ?_; rfl) | omega | exact Or.inl trivial | exact Or.inr trivial | exact Or.inl rfl | exact Or.inr rfl)
        refine hN.1 252 _ _ _ _ _ _ _ 7 _ _ _ _ _ _ _ _ _ _ lX10_252 (hm9) ⟨by decide, rfl⟩ (hO) rfl rfl (Nat.le_of_ble_eq_true rfl) (by omega) (by decide) (by omega) (by omega) dX10_witness_40 ?_
        rintro r2 P2 s2 ⟨rfl, ⟨F2, X2, Y2, rfl, hF2⟩, rfl⟩
        dsimp only [Option.toList, List.cons_append, List.nil_append]
        refine hB bX10_witness_43 _ _ _ _ _ _ _ kX10_witness_43 ?_
        dsimp only [bX10_witness_43, kx_wp, kx_step, kx_lI, kx_lL, kx_lA, kx_gl, kx_pI, kx_pL, kx_pR, kx_pA, kx_pV, kx_s1, kx_s2, kx_sl, kx_pre, kx_c2, kx_pl, kx_cmp, kx_oF, kx_eqN, kx_nil, kx_c1, kx_ft, kx_aI, kx_aL, kx_aR, kx_ln, Nat.reduceAdd, Option.toList, List.cons_append, List.nil_append, cf10_9, cf10_6]
        repeat (simp only [h64, hO, hip, ks_eq, ks_ss]; try dsimp only [kx_wp, kx_step, kx_lI, kx_lL, kx_lA, kx_gl, kx_pI, kx_pL, kx_pR, kx_pA, kx_pV, kx_s1, kx_s2, kx_sl, kx_pre, kx_c2, kx_pl, kx_cmp, kx_oF, kx_eqN, kx_nil, kx_c1, kx_ft, kx_aI, kx_aL, kx_aR, kx_ln, Nat.reduceAdd, Option.toList, List.cons_append, List.nil_append, cf10_9, cf10_6])
        all_goals (repeat' apply And.intro)
        all_goals ((try clear hB hC); first | exact True.intro | rfl | exact ⟨F2, X2, Y2, rfl, hF2⟩ | exact hF2)

set_option maxRecDepth 100000 in
set_option maxHeartbeats 4000000 in
theorem ct_X10_witness_b (l : Launch) (G : kx_G) (hst : l.stackTraces = false) {P : kx_P} {sz : Nat} {x y z w : Int32} (hb : ¬ (cx_ip x y = 1 ∧ 1 ≤ z ∧ z ≤ 12)) (hq1 : cx_ip x y = 0 ∨ cx_ip x y = 1)  : kx_X l G sX10_witness 7 [.ref 64, .int (x), .int (y), .int (z), .int (w)] P sz "java/lang/IllegalArgumentException" := by
  refine kx_mkx hst kx_tab kxLok_X10 [some (.ref 64), some (.int (x)), some (.int (y)), some (.int (z)), some (.int (w))] ⟨by decide, rfl, by decide⟩ rfl rfl (fun g hB hC hX hT => ?_)
  refine hB bX10_witness_0 _ _ _ _ _ _ _ kX10_witness_0 ?_
  dsimp only [bX10_witness_0, kx_wp, kx_step, kx_lI, kx_lL, kx_lA, kx_gl, kx_pI, kx_pL, kx_pR, kx_pA, kx_pV, kx_s1, kx_s2, kx_sl, kx_pre, kx_c2, kx_pl, kx_cmp, kx_oF, kx_eqN, kx_nil, kx_c1, kx_ft, kx_aI, kx_aL, kx_aR, kx_ln, Nat.reduceAdd, Option.toList, List.cons_append, List.nil_append, cf10_9, cf10_6]
  repeat (simp only [ks_eq, ks_ss]; try dsimp only [kx_wp, kx_step, kx_lI, kx_lL, kx_lA, kx_gl, kx_pI, kx_pL, kx_pR, kx_pA, kx_pV, kx_s1, kx_s2, kx_sl, kx_pre, kx_c2, kx_pl, kx_cmp, kx_oF, kx_eqN, kx_nil, kx_c1, kx_ft, kx_aI, kx_aL, kx_aR, kx_ln, Nat.reduceAdd, Option.toList, List.cons_append, List.nil_append, cf10_9, cf10_6])
  repeat' apply And.intro
  all_goals try (first | with_reducible assumption | (with_reducible refine ck_nzI ?_; simp; done) | (with_reducible refine ck_nzL ?_; simp; done) | (with_reducible refine vp_in_nI ?_ ?_ <;> first | omega | decide) | (with_reducible refine Nat.le_of_ble_eq_true ?_; rfl) | omega | exact Or.inl trivial | exact Or.inr trivial | exact Or.inl rfl | exact Or.inr rfl)
  refine hC.2.1 111 _ _ _ _ _ _ _ _ _ _ _ _ _ _ _ _ _ lX10_111 (ct_X10_isPlace l G) rfl rfl (Nat.le_of_ble_eq_true rfl) (by first | decide | omega) (by decide) (by omega) (by omega) dX10_witness_2 ?_
  refine hB bX10_witness_5 _ _ _ _ _ _ _ kX10_witness_5 ?_
  dsimp only [bX10_witness_5, kx_wp, kx_step, kx_lI, kx_lL, kx_lA, kx_gl, kx_pI, kx_pL, kx_pR, kx_pA, kx_pV, kx_s1, kx_s2, kx_sl, kx_pre, kx_c2, kx_pl, kx_cmp, kx_oF, kx_eqN, kx_nil, kx_c1, kx_ft, kx_aI, kx_aL, kx_aR, kx_ln, Nat.reduceAdd, Option.toList, List.cons_append, List.nil_append, cf10_9, cf10_6]
  repeat (simp only [ks_eq, ks_ss]; try dsimp only [kx_wp, kx_step, kx_lI, kx_lL, kx_lA, kx_gl, kx_pI, kx_pL, kx_pR, kx_pA, kx_pV, kx_s1, kx_s2, kx_sl, kx_pre, kx_c2, kx_pl, kx_cmp, kx_oF, kx_eqN, kx_nil, kx_c1, kx_ft, kx_aI, kx_aL, kx_aR, kx_ln, Nat.reduceAdd, Option.toList, List.cons_append, List.nil_append, cf10_9, cf10_6])
  repeat' apply And.intro
  all_goals try (first | with_reducible assumption | (with_reducible refine ck_nzI ?_; simp; done) | (with_reducible refine ck_nzL ?_; simp; done) | (with_reducible refine vp_in_nI ?_ ?_ <;> first | omega | decide) | (with_reducible refine Nat.le_of_ble_eq_true ?_; rfl) | omega | exact Or.inl trivial | exact Or.inr trivial | exact Or.inl rfl | exact Or.inr rfl)
  · intro zc5
    have ze5 := zc5
    refine hB bX10_witness_23 _ _ _ _ _ _ _ kX10_witness_23 ?_
    dsimp only [bX10_witness_23, kx_wp, kx_step, kx_lI, kx_lL, kx_lA, kx_gl, kx_pI, kx_pL, kx_pR, kx_pA, kx_pV, kx_s1, kx_s2, kx_sl, kx_pre, kx_c2, kx_pl, kx_cmp, kx_oF, kx_eqN, kx_nil, kx_c1, kx_ft, kx_aI, kx_aL, kx_aR, kx_ln, Nat.reduceAdd, Option.toList, List.cons_append, List.nil_append, cf10_9, cf10_6]
    repeat (simp only [ks_eq, ks_ss]; try dsimp only [kx_wp, kx_step, kx_lI, kx_lL, kx_lA, kx_gl, kx_pI, kx_pL, kx_pR, kx_pA, kx_pV, kx_s1, kx_s2, kx_sl, kx_pre, kx_c2, kx_pl, kx_cmp, kx_oF, kx_eqN, kx_nil, kx_c1, kx_ft, kx_aI, kx_aL, kx_aR, kx_ln, Nat.reduceAdd, Option.toList, List.cons_append, List.nil_append, cf10_9, cf10_6])
    repeat' apply And.intro
    all_goals try (first | with_reducible assumption | (with_reducible refine ck_nzI ?_; simp; done) | (with_reducible refine ck_nzL ?_; simp; done) | (with_reducible refine vp_in_nI ?_ ?_ <;> first | omega | decide) | (with_reducible refine Nat.le_of_ble_eq_true ?_; rfl) | omega | exact Or.inl trivial | exact Or.inr trivial | exact Or.inl rfl | exact Or.inr rfl)
    exact hX.2 95 _ _ _ _ _ _ _ _ lX10_95 (ct_X10_need_x l G hst) rfl rfl (Nat.le_of_ble_eq_true rfl) (by first | decide | omega) (by decide) dX10_witness_24
  · intro zc5
    have ze5 := zc5
    refine hB bX10_witness_8 _ _ _ _ _ _ _ kX10_witness_8 ?_
    dsimp only [bX10_witness_8, kx_wp, kx_step, kx_lI, kx_lL, kx_lA, kx_gl, kx_pI, kx_pL, kx_pR, kx_pA, kx_pV, kx_s1, kx_s2, kx_sl, kx_pre, kx_c2, kx_pl, kx_cmp, kx_oF, kx_eqN, kx_nil, kx_c1, kx_ft, kx_aI, kx_aL, kx_aR, kx_ln, Nat.reduceAdd, Option.toList, List.cons_append, List.nil_append, cf10_9, cf10_6]
    repeat (simp only [ks_eq, ks_ss]; try dsimp only [kx_wp, kx_step, kx_lI, kx_lL, kx_lA, kx_gl, kx_pI, kx_pL, kx_pR, kx_pA, kx_pV, kx_s1, kx_s2, kx_sl, kx_pre, kx_c2, kx_pl, kx_cmp, kx_oF, kx_eqN, kx_nil, kx_c1, kx_ft, kx_aI, kx_aL, kx_aR, kx_ln, Nat.reduceAdd, Option.toList, List.cons_append, List.nil_append, cf10_9, cf10_6])
    repeat' apply And.intro
    all_goals try (first | with_reducible assumption | (with_reducible refine ck_nzI ?_; simp; done) | (with_reducible refine ck_nzL ?_; simp; done) | (with_reducible refine vp_in_nI ?_ ?_ <;> first | omega | decide) | (with_reducible refine Nat.le_of_ble_eq_true ?_; rfl) | omega | exact Or.inl trivial | exact Or.inr trivial | exact Or.inl rfl | exact Or.inr rfl)
    · intro zc10
      with_reducible first | have ze10 := Int32.not_le.mpr zc10 | have ze10 := zc10
      refine hB bX10_witness_23 _ _ _ _ _ _ _ kX10_witness_23 ?_
      dsimp only [bX10_witness_23, kx_wp, kx_step, kx_lI, kx_lL, kx_lA, kx_gl, kx_pI, kx_pL, kx_pR, kx_pA, kx_pV, kx_s1, kx_s2, kx_sl, kx_pre, kx_c2, kx_pl, kx_cmp, kx_oF, kx_eqN, kx_nil, kx_c1, kx_ft, kx_aI, kx_aL, kx_aR, kx_ln, Nat.reduceAdd, Option.toList, List.cons_append, List.nil_append, cf10_9, cf10_6]
      repeat (simp only [ks_eq, ks_ss]; try dsimp only [kx_wp, kx_step, kx_lI, kx_lL, kx_lA, kx_gl, kx_pI, kx_pL, kx_pR, kx_pA, kx_pV, kx_s1, kx_s2, kx_sl, kx_pre, kx_c2, kx_pl, kx_cmp, kx_oF, kx_eqN, kx_nil, kx_c1, kx_ft, kx_aI, kx_aL, kx_aR, kx_ln, Nat.reduceAdd, Option.toList, List.cons_append, List.nil_append, cf10_9, cf10_6])
      repeat' apply And.intro
      all_goals try (first | with_reducible assumption | (with_reducible refine ck_nzI ?_; simp; done) | (with_reducible refine ck_nzL ?_; simp; done) | (with_reducible refine vp_in_nI ?_ ?_ <;> first | omega | decide) | (with_reducible refine Nat.le_of_ble_eq_true ?_; rfl) | omega | exact Or.inl trivial | exact Or.inr trivial | exact Or.inl rfl | exact Or.inr rfl)
      exact hX.2 95 _ _ _ _ _ _ _ _ lX10_95 (ct_X10_need_x l G hst) rfl rfl (Nat.le_of_ble_eq_true rfl) (by first | decide | omega) (by decide) dX10_witness_24
    · intro zc10
      with_reducible first | have ze10 := Int32.not_lt.mp zc10 | have ze10 := zc10
      refine hB bX10_witness_13 _ _ _ _ _ _ _ kX10_witness_13 ?_
      dsimp only [bX10_witness_13, kx_wp, kx_step, kx_lI, kx_lL, kx_lA, kx_gl, kx_pI, kx_pL, kx_pR, kx_pA, kx_pV, kx_s1, kx_s2, kx_sl, kx_pre, kx_c2, kx_pl, kx_cmp, kx_oF, kx_eqN, kx_nil, kx_c1, kx_ft, kx_aI, kx_aL, kx_aR, kx_ln, Nat.reduceAdd, Option.toList, List.cons_append, List.nil_append, cf10_9, cf10_6]
      repeat (simp only [ks_eq, ks_ss]; try dsimp only [kx_wp, kx_step, kx_lI, kx_lL, kx_lA, kx_gl, kx_pI, kx_pL, kx_pR, kx_pA, kx_pV, kx_s1, kx_s2, kx_sl, kx_pre, kx_c2, kx_pl, kx_cmp, kx_oF, kx_eqN, kx_nil, kx_c1, kx_ft, kx_aI, kx_aL, kx_aR, kx_ln, Nat.reduceAdd, Option.toList, List.cons_append, List.nil_append, cf10_9, cf10_6])
      repeat' apply And.intro
      all_goals try (first | with_reducible assumption | (with_reducible refine ck_nzI ?_; simp; done) | (with_reducible refine ck_nzL ?_; simp; done) | (with_reducible refine vp_in_nI ?_ ?_ <;> first | omega | decide) | (with_reducible refine Nat.le_of_ble_eq_true ?_; rfl) | omega | exact Or.inl trivial | exact Or.inr trivial | exact Or.inl rfl | exact Or.inr rfl)
      · intro zc16
        with_reducible first | have ze16 := Int32.not_le.mpr zc16 | have ze16 := zc16
        refine hB bX10_witness_23 _ _ _ _ _ _ _ kX10_witness_23 ?_
        dsimp only [bX10_witness_23, kx_wp, kx_step, kx_lI, kx_lL, kx_lA, kx_gl, kx_pI, kx_pL, kx_pR, kx_pA, kx_pV, kx_s1, kx_s2, kx_sl, kx_pre, kx_c2, kx_pl, kx_cmp, kx_oF, kx_eqN, kx_nil, kx_c1, kx_ft, kx_aI, kx_aL, kx_aR, kx_ln, Nat.reduceAdd, Option.toList, List.cons_append, List.nil_append, cf10_9, cf10_6]
        repeat (simp only [ks_eq, ks_ss]; try dsimp only [kx_wp, kx_step, kx_lI, kx_lL, kx_lA, kx_gl, kx_pI, kx_pL, kx_pR, kx_pA, kx_pV, kx_s1, kx_s2, kx_sl, kx_pre, kx_c2, kx_pl, kx_cmp, kx_oF, kx_eqN, kx_nil, kx_c1, kx_ft, kx_aI, kx_aL, kx_aR, kx_ln, Nat.reduceAdd, Option.toList, List.cons_append, List.nil_append, cf10_9, cf10_6])
        repeat' apply And.intro
        all_goals try (first | with_reducible assumption | (with_reducible refine ck_nzI ?_; simp; done) | (with_reducible refine ck_nzL ?_; simp; done) | (with_reducible refine vp_in_nI ?_ ?_ <;> first | omega | decide) | (with_reducible refine Nat.le_of_ble_eq_true ?_; rfl) | omega | exact Or.inl trivial | exact Or.inr trivial | exact Or.inl rfl | exact Or.inr rfl)
        exact hX.2 95 _ _ _ _ _ _ _ _ lX10_95 (ct_X10_need_x l G hst) rfl rfl (Nat.le_of_ble_eq_true rfl) (by first | decide | omega) (by decide) dX10_witness_24
      · intro zc16
        with_reducible first | have ze16 := Int32.not_lt.mp zc16 | have ze16 := zc16
        exact absurd ⟨hq1.resolve_left zc5, ze10, ze16⟩ hb

def bX10_round_0 : List kx_O := [(.aload_n 0, 0, 0, 0, .null), (.iload_n 1, 1, 0, 0, .null), (.bipush 6, 0, 0, 0, .int 6)]
theorem kX10_round_0 : kx_oks kxL_X10 false cX10_round 0 bX10_round_0 = true := by decide +kernel
def bX10_round_10 : List kx_O := [(.iload_n 1, 1, 0, 0, .null)]
theorem kX10_round_10 : kx_oks kxL_X10 false cX10_round 10 bX10_round_10 = true := by decide +kernel
def bX10_round_14 : List kx_O := [(.istore_n 3, 3, 0, 0, .null), (.iload_n 2, 2, 0, 0, .null), (.ifCond .lt 14, 30, 0, 0, .null)]
theorem kX10_round_14 : kx_oks kxL_X10 false cX10_round 14 bX10_round_14 = true := by decide +kernel
def bX10_round_19 : List kx_O := [(.iload_n 2, 2, 0, 0, .null), (.iconst 1, 0, 0, 0, .int 1), (.iload_n 3, 3, 0, 0, .null), (.iadd, 0, 0, 0, .null), (.if_icmp .gt 7, 30, 0, 0, .null)]
theorem kX10_round_19 : kx_oks kxL_X10 false cX10_round 19 bX10_round_19 = true := by decide +kernel
def bX10_round_26 : List kx_O := [(.iconst 1, 0, 0, 0, .int 1), (.goto 4, 31, 0, 0, .null)]
theorem kX10_round_26 : kx_oks kxL_X10 false cX10_round 26 bX10_round_26 = true := by decide +kernel
def bX10_round_30 : List kx_O := [(.iconst 0, 0, 0, 0, .int 0)]
theorem kX10_round_30 : kx_oks kxL_X10 false cX10_round 30 bX10_round_30 = true := by decide +kernel
def bX10_round_34 : List kx_O := [(.aload_n 0, 0, 0, 0, .null), (.getfield 70, 10, 12, 0, .null), (.aload_n 0, 0, 0, 0, .null), (.getfield 40, 10, 6, 0, .null), (.iload_n 1, 1, 0, 0, .null), (.aload_n 0, 0, 0, 0, .null), (.getfield 61, 10, 10, 0, .null), (.aload_n 0, 0, 0, 0, .null), (.getfield 64, 10, 11, 0, .null)]
theorem kX10_round_34 : kx_oks kxL_X10 false cX10_round 34 bX10_round_34 = true := by decide +kernel
def bX10_round_54 : List kx_O := [(.iload_n 2, 2, 0, 0, .null), (.ifCond .ne 11, 66, 0, 0, .null)]
theorem kX10_round_54 : kx_oks kxL_X10 false cX10_round 54 bX10_round_54 = true := by decide +kernel
def bX10_round_58 : List kx_O := [(.aload_n 0, 0, 0, 0, .null), (.getfield 70, 10, 12, 0, .null), (.getfield 272, 6, 3, 0, .null), (.ireturn, 0, 0, 0, .null)]
theorem kX10_round_58 : kx_oks kxL_X10 false cX10_round 58 bX10_round_58 = true := by decide +kernel
def bX10_round_66 : List kx_O := [(.iload_n 2, 2, 0, 0, .null), (.iconst 1, 0, 0, 0, .int 1), (.if_icmp .ne 13, 81, 0, 0, .null)]
theorem kX10_round_66 : kx_oks kxL_X10 false cX10_round 66 bX10_round_66 = true := by decide +kernel
def bX10_round_71 : List kx_O := [(.aload_n 0, 0, 0, 0, .null), (.getfield 70, 10, 12, 0, .null), (.getfield 275, 6, 4, 0, .null), (.goto 13, 91, 0, 0, .null)]
theorem kX10_round_71 : kx_oks kxL_X10 false cX10_round 71 bX10_round_71 = true := by decide +kernel
def bX10_round_81 : List kx_O := [(.aload_n 0, 0, 0, 0, .null), (.getfield 70, 10, 12, 0, .null), (.iload_n 2, 2, 0, 0, .null), (.iconst 2, 0, 0, 0, .int 2), (.isub, 0, 0, 0, .null)]
theorem kX10_round_81 : kx_oks kxL_X10 false cX10_round 81 bX10_round_81 = true := by decide +kernel
def bX10_round_91 : List kx_O := [(.ireturn, 0, 0, 0, .null)]
theorem kX10_round_91 : kx_oks kxL_X10 false cX10_round 91 bX10_round_91 = true := by decide +kernel
theorem dX10_round_4 : decode cX10_round 4 = .ok (.invokevirtual 261, 3) := by decide +kernel
theorem dX10_round_7 : decode cX10_round 7 = .ok (.invokestatic 95, 3) := by decide +kernel
theorem dX10_round_11 : decode cX10_round 11 = .ok (.invokestatic 264, 3) := by decide +kernel
theorem dX10_round_31 : decode cX10_round 31 = .ok (.invokestatic 95, 3) := by decide +kernel
theorem dX10_round_51 : decode cX10_round 51 = .ok (.invokevirtual 269, 3) := by decide +kernel
theorem dX10_round_88 : decode cX10_round 88 = .ok (.invokevirtual 278, 3) := by decide +kernel
set_option maxRecDepth 100000 in
set_option maxHeartbeats 4000000 in
theorem ct_X10_round_0 (l : Launch) (G : kx_G) {P : kx_P} {sz : Nat} {sv : Value} {K : Nat → Int32} (h64 : P 64 = kO 10 (kf (cr10 sv) K)) {O B Fr : Nat → Int32} {cv : Value} (h78 : P 78 = kO 6 (kf (cr6 cv) Fr)) (h79 : P 79 = kI 0 6 O) (h80 : P 80 = kI 0 6 B) {cl : Nat} (hcl : cl ≤ 8) {cn wn : Nat → Nat} {DD : Nat → Int64} {HH : Nat → Value} {CC VV : Nat → Nat → Int32} (hCS : cx_CS P cl cn wn DD HH CC VV) {b : Int32} (hac : cx_ac b (K 7) 6 = 1) (hw : 0 ≤ 1 + cj_bc b)  : kx_M l G sX10_round 20 0 0 [.ref 64, .int (b), .int (0)] P sz (some (.int ((cx_go CC VV cl 6 (upd (upd Fr 3 1000000000) 4 1000000000, O, B) 0 b (K 10) (K 11) 0 0).1 3))) (rW P (cx_go CC VV cl 6 (upd (upd Fr 3 1000000000) 4 1000000000, O, B) 0 b (K 10) (K 11) 0 0)) sz := by
  have hRW : kx_set (kx_set (kx_set P 79 (kI 0 6 O)) 80 (kI 0 6 B)) 78 (kO 6 (kf (cr6 cv) Fr)) = P := by rw [ks_id h79, ks_id h80, ks_id h78]
  have hm9 := ct_X6_seek l G (sz := sz) hcl hCS (F := Fr) (O := O) (B := B) (cv := cv) (bits := b) (x := K 10) (y := K 11)
  rw [hRW] at hm9
  have h64s : ∀ T, rW P T 64 = kO 10 (kf (cr10 sv) K) := fun T => (rW_o (by decide) (by decide) (by decide)).trans h64
  have h78s : ∀ T, rW P T 78 = kO 6 (kf (cr6 (.ref 69)) T.1) := fun T => rW_78
  have h80s : ∀ T, rW P T 80 = kI 0 6 T.2.2 := fun T => rW_80
  refine kx_mk kx_tab kxLok_X10 (ini := false) [some (.ref 64), some (.int (b)), some (.int (0)), none] ⟨by decide, rfl, by decide, by decide⟩ (⟨_, rfl⟩) rfl rfl (fun g hB hC => ?_)
  refine hB bX10_round_0 _ _ _ _ _ _ _ kX10_round_0 ?_
  dsimp only [bX10_round_0, kx_wp, kx_step, kx_lI, kx_lL, kx_lA, kx_gl, kx_pI, kx_pL, kx_pR, kx_pA, kx_pV, kx_s1, kx_s2, kx_sl, kx_pre, kx_c2, kx_pl, kx_cmp, kx_oF, kx_eqN, kx_nil, kx_c1, kx_ft, kx_aI, kx_aL, kx_aR, kx_ln, Nat.reduceAdd, Option.toList, List.cons_append, List.nil_append, cf10_12, cf10_6, cf10_10, cf10_11, cf6_3, cf6_4]
  repeat (simp only [h64, h64s, h78, h78s, ks_eq, ks_ss]; try dsimp only [kx_wp, kx_step, kx_lI, kx_lL, kx_lA, kx_gl, kx_pI, kx_pL, kx_pR, kx_pA, kx_pV, kx_s1, kx_s2, kx_sl, kx_pre, kx_c2, kx_pl, kx_cmp, kx_oF, kx_eqN, kx_nil, kx_c1, kx_ft, kx_aI, kx_aL, kx_aR, kx_ln, Nat.reduceAdd, Option.toList, List.cons_append, List.nil_append, cf10_12, cf10_6, cf10_10, cf10_11, cf6_3, cf6_4])
  repeat' apply And.intro
  all_goals try (first | with_reducible assumption | (with_reducible refine ck_nzI ?_; simp; done) | (with_reducible refine ck_nzL ?_; simp; done) | (with_reducible refine vp_in_nI ?_ ?_ <;> first | omega | decide) | (with_reducible refine Nat.le_of_ble_eq_true ?_; rfl) | omega | exact Or.inl trivial | exact Or.inr trivial | exact Or.inl rfl | exact Or.inr rfl)
  refine hC.1 261 _ _ _ _ _ _ _ 10 _ _ _ _ _ _ _ _ _ _ _ _ lX10_261 (ct_X10_areClocks l G h64) ⟨by decide, rfl⟩ (h64) rfl rfl (Nat.le_of_ble_eq_true rfl) (by first | decide | omega) (by decide) (by omega) (by omega) dX10_round_4 ?_
  rw [hac]
  refine hC.2.1 95 _ _ _ _ _ _ _ _ _ _ _ _ _ _ _ _ _ lX10_95 (ct_X10_need l G (b := 1) (by decide)) rfl rfl (Nat.le_of_ble_eq_true rfl) (by first | decide | omega) (by decide) (by omega) (by omega) dX10_round_7 ?_
  refine hB bX10_round_10 _ _ _ _ _ _ _ kX10_round_10 ?_
  dsimp only [bX10_round_10, kx_wp, kx_step, kx_lI, kx_lL, kx_lA, kx_gl, kx_pI, kx_pL, kx_pR, kx_pA, kx_pV, kx_s1, kx_s2, kx_sl, kx_pre, kx_c2, kx_pl, kx_cmp, kx_oF, kx_eqN, kx_nil, kx_c1, kx_ft, kx_aI, kx_aL, kx_aR, kx_ln, Nat.reduceAdd, Option.toList, List.cons_append, List.nil_append, cf10_12, cf10_6, cf10_10, cf10_11, cf6_3, cf6_4]
  repeat (simp only [h64, h64s, h78, h78s, ks_eq, ks_ss]; try dsimp only [kx_wp, kx_step, kx_lI, kx_lL, kx_lA, kx_gl, kx_pI, kx_pL, kx_pR, kx_pA, kx_pV, kx_s1, kx_s2, kx_sl, kx_pre, kx_c2, kx_pl, kx_cmp, kx_oF, kx_eqN, kx_nil, kx_c1, kx_ft, kx_aI, kx_aL, kx_aR, kx_ln, Nat.reduceAdd, Option.toList, List.cons_append, List.nil_append, cf10_12, cf10_6, cf10_10, cf10_11, cf6_3, cf6_4])
  repeat' apply And.intro
  all_goals try (first | with_reducible assumption | (with_reducible refine ck_nzI ?_; simp; done) | (with_reducible refine ck_nzL ?_; simp; done) | (with_reducible refine vp_in_nI ?_ ?_ <;> first | omega | decide) | (with_reducible refine Nat.le_of_ble_eq_true ?_; rfl) | omega | exact Or.inl trivial | exact Or.inr trivial | exact Or.inl rfl | exact Or.inr rfl)
  refine hC.2.1 264 _ _ _ _ _ _ _ _ _ _ _ _ _ _ _ _ _ lX10_264 (ct_J6_bitCount_0f7a4 l G) rfl rfl (Nat.le_of_ble_eq_true rfl) (by first | decide | omega) (by decide) (by omega) (by omega) dX10_round_11 ?_
  refine hB bX10_round_14 _ _ _ _ _ _ _ kX10_round_14 ?_
  dsimp only [bX10_round_14, kx_wp, kx_step, kx_lI, kx_lL, kx_lA, kx_gl, kx_pI, kx_pL, kx_pR, kx_pA, kx_pV, kx_s1, kx_s2, kx_sl, kx_pre, kx_c2, kx_pl, kx_cmp, kx_oF, kx_eqN, kx_nil, kx_c1, kx_ft, kx_aI, kx_aL, kx_aR, kx_ln, Nat.reduceAdd, Option.toList, List.cons_append, List.nil_append, cf10_12, cf10_6, cf10_10, cf10_11, cf6_3, cf6_4]
  repeat (simp only [h64, h64s, h78, h78s, ks_eq, ks_ss]; try dsimp only [kx_wp, kx_step, kx_lI, kx_lL, kx_lA, kx_gl, kx_pI, kx_pL, kx_pR, kx_pA, kx_pV, kx_s1, kx_s2, kx_sl, kx_pre, kx_c2, kx_pl, kx_cmp, kx_oF, kx_eqN, kx_nil, kx_c1, kx_ft, kx_aI, kx_aL, kx_aR, kx_ln, Nat.reduceAdd, Option.toList, List.cons_append, List.nil_append, cf10_12, cf10_6, cf10_10, cf10_11, cf6_3, cf6_4])
  repeat' apply And.intro
  all_goals try (first | with_reducible assumption | (with_reducible refine ck_nzI ?_; simp; done) | (with_reducible refine ck_nzL ?_; simp; done) | (with_reducible refine vp_in_nI ?_ ?_ <;> first | omega | decide) | (with_reducible refine Nat.le_of_ble_eq_true ?_; rfl) | omega | exact Or.inl trivial | exact Or.inr trivial | exact Or.inl rfl | exact Or.inr rfl)
  · intro zc16
    first | exact absurd rfl zc16 | exact absurd zc16 (by decide) | exact absurd (by decide) zc16 | (exfalso; first | exact absurd zc16 (by decide) | exact absurd hw (Int32.not_le.mpr zc23) | exact zc55 rfl | exact absurd zc55 (by decide) | exact zc68 rfl | exact absurd zc68 (by decide) | exact absurd ((nI_ltI (a := j + 2) (b := 0) (by omega) (by omega)).mp zc16) (by omega) | exact absurd ((nI_eq (a := j + 2) (b := 0) (by omega) (by omega)).mp (Decidable.not_not.mp zc55)) (by omega) | exact absurd ((nI_eq (a := j + 2) (b := 1) (by omega) (by omega)).mp (Decidable.not_not.mp zc68)) (by omega)) | (exfalso; simp_all; done)
  · intro zc16
    with_reducible first | have ze16 := Int32.not_lt.mp zc16 | have ze16 := zc16
    refine hB bX10_round_19 _ _ _ _ _ _ _ kX10_round_19 ?_
    dsimp only [bX10_round_19, kx_wp, kx_step, kx_lI, kx_lL, kx_lA, kx_gl, kx_pI, kx_pL, kx_pR, kx_pA, kx_pV, kx_s1, kx_s2, kx_sl, kx_pre, kx_c2, kx_pl, kx_cmp, kx_oF, kx_eqN, kx_nil, kx_c1, kx_ft, kx_aI, kx_aL, kx_aR, kx_ln, Nat.reduceAdd, Option.toList, List.cons_append, List.nil_append, cf10_12, cf10_6, cf10_10, cf10_11, cf6_3, cf6_4]
    repeat (simp only [h64, h64s, h78, h78s, ks_eq, ks_ss]; try dsimp only [kx_wp, kx_step, kx_lI, kx_lL, kx_lA, kx_gl, kx_pI, kx_pL, kx_pR, kx_pA, kx_pV, kx_s1, kx_s2, kx_sl, kx_pre, kx_c2, kx_pl, kx_cmp, kx_oF, kx_eqN, kx_nil, kx_c1, kx_ft, kx_aI, kx_aL, kx_aR, kx_ln, Nat.reduceAdd, Option.toList, List.cons_append, List.nil_append, cf10_12, cf10_6, cf10_10, cf10_11, cf6_3, cf6_4])
    repeat' apply And.intro
    all_goals try (first | with_reducible assumption | (with_reducible refine ck_nzI ?_; simp; done) | (with_reducible refine ck_nzL ?_; simp; done) | (with_reducible refine vp_in_nI ?_ ?_ <;> first | omega | decide) | (with_reducible refine Nat.le_of_ble_eq_true ?_; rfl) | omega | exact Or.inl trivial | exact Or.inr trivial | exact Or.inl rfl | exact Or.inr rfl)
    · intro zc23
      first | exact absurd rfl zc23 | exact absurd zc23 (by decide) | exact absurd (by decide) zc23 | (exfalso; first | exact absurd zc16 (by decide) | exact absurd hw (Int32.not_le.mpr zc23) | exact zc55 rfl | exact absurd zc55 (by decide) | exact zc68 rfl | exact absurd zc68 (by decide) | exact absurd ((nI_ltI (a := j + 2) (b := 0) (by omega) (by omega)).mp zc16) (by omega) | exact absurd ((nI_eq (a := j + 2) (b := 0) (by omega) (by omega)).mp (Decidable.not_not.mp zc55)) (by omega) | exact absurd ((nI_eq (a := j + 2) (b := 1) (by omega) (by omega)).mp (Decidable.not_not.mp zc68)) (by omega)) | (exfalso; simp_all; done)
    · intro zc23
      with_reducible first | have ze23 := Int32.not_lt.mp zc23 | have ze23 := zc23
      refine hB bX10_round_26 _ _ _ _ _ _ _ kX10_round_26 ?_
      dsimp only [bX10_round_26, kx_wp, kx_step, kx_lI, kx_lL, kx_lA, kx_gl, kx_pI, kx_pL, kx_pR, kx_pA, kx_pV, kx_s1, kx_s2, kx_sl, kx_pre, kx_c2, kx_pl, kx_cmp, kx_oF, kx_eqN, kx_nil, kx_c1, kx_ft, kx_aI, kx_aL, kx_aR, kx_ln, Nat.reduceAdd, Option.toList, List.cons_append, List.nil_append, cf10_12, cf10_6, cf10_10, cf10_11, cf6_3, cf6_4]
      repeat (simp only [h64, h64s, h78, h78s, ks_eq, ks_ss]; try dsimp only [kx_wp, kx_step, kx_lI, kx_lL, kx_lA, kx_gl, kx_pI, kx_pL, kx_pR, kx_pA, kx_pV, kx_s1, kx_s2, kx_sl, kx_pre, kx_c2, kx_pl, kx_cmp, kx_oF, kx_eqN, kx_nil, kx_c1, kx_ft, kx_aI, kx_aL, kx_aR, kx_ln, Nat.reduceAdd, Option.toList, List.cons_append, List.nil_append, cf10_12, cf10_6, cf10_10, cf10_11, cf6_3, cf6_4])
      repeat' apply And.intro
      all_goals try (first | with_reducible assumption | (with_reducible refine ck_nzI ?_; simp; done) | (with_reducible refine ck_nzL ?_; simp; done) | (with_reducible refine vp_in_nI ?_ ?_ <;> first | omega | decide) | (with_reducible refine Nat.le_of_ble_eq_true ?_; rfl) | omega | exact Or.inl trivial | exact Or.inr trivial | exact Or.inl rfl | exact Or.inr rfl)
      refine hC.2.1 95 _ _ _ _ _ _ _ _ _ _ _ _ _ _ _ _ _ lX10_95 (ct_X10_need l G (b := 1) (by decide)) rfl rfl (Nat.le_of_ble_eq_true rfl) (by first | decide | omega) (by decide) (by omega) (by omega) dX10_round_31 ?_
      refine hB bX10_round_34 _ _ _ _ _ _ _ kX10_round_34 ?_
      dsimp only [bX10_round_34, kx_wp, kx_step, kx_lI, kx_lL, kx_lA, kx_gl, kx_pI, kx_pL, kx_pR, kx_pA, kx_pV, kx_s1, kx_s2, kx_sl, kx_pre, kx_c2, kx_pl, kx_cmp, kx_oF, kx_eqN, kx_nil, kx_c1, kx_ft, kx_aI, kx_aL, kx_aR, kx_ln, Nat.reduceAdd, Option.toList, List.cons_append, List.nil_append, cf10_12, cf10_6, cf10_10, cf10_11, cf6_3, cf6_4]
      repeat (simp only [h64, h64s, h78, h78s, ks_eq, ks_ss]; try dsimp only [kx_wp, kx_step, kx_lI, kx_lL, kx_lA, kx_gl, kx_pI, kx_pL, kx_pR, kx_pA, kx_pV, kx_s1, kx_s2, kx_sl, kx_pre, kx_c2, kx_pl, kx_cmp, kx_oF, kx_eqN, kx_nil, kx_c1, kx_ft, kx_aI, kx_aL, kx_aR, kx_ln, Nat.reduceAdd, Option.toList, List.cons_append, List.nil_append, cf10_12, cf10_6, cf10_10, cf10_11, cf6_3, cf6_4])
      repeat' apply And.intro
      all_goals try (first | with_reducible assumption | (with_reducible refine ck_nzI ?_; simp; done) | (with_reducible refine ck_nzL ?_; simp; done) | (with_reducible refine vp_in_nI ?_ ?_ <;> first | omega | decide) | (with_reducible refine Nat.le_of_ble_eq_true ?_; rfl) | omega | exact Or.inl trivial | exact Or.inr trivial | exact Or.inl rfl | exact Or.inr rfl)
      refine hC.1 269 _ _ _ _ _ _ _ 6 _ _ _ _ _ _ _ _ _ _ _ _ lX10_269 (hm9) ⟨by decide, rfl⟩ (h78) rfl rfl (Nat.le_of_ble_eq_true rfl) (by first | decide | omega) (by decide) (by omega) (by omega) dX10_round_51 ?_
      refine hB bX10_round_54 _ _ _ _ _ _ _ kX10_round_54 ?_
      dsimp only [bX10_round_54, kx_wp, kx_step, kx_lI, kx_lL, kx_lA, kx_gl, kx_pI, kx_pL, kx_pR, kx_pA, kx_pV, kx_s1, kx_s2, kx_sl, kx_pre, kx_c2, kx_pl, kx_cmp, kx_oF, kx_eqN, kx_nil, kx_c1, kx_ft, kx_aI, kx_aL, kx_aR, kx_ln, Nat.reduceAdd, Option.toList, List.cons_append, List.nil_append, cf10_12, cf10_6, cf10_10, cf10_11, cf6_3, cf6_4]
      repeat (simp only [h64, h64s, h78, h78s, ks_eq, ks_ss]; try dsimp only [kx_wp, kx_step, kx_lI, kx_lL, kx_lA, kx_gl, kx_pI, kx_pL, kx_pR, kx_pA, kx_pV, kx_s1, kx_s2, kx_sl, kx_pre, kx_c2, kx_pl, kx_cmp, kx_oF, kx_eqN, kx_nil, kx_c1, kx_ft, kx_aI, kx_aL, kx_aR, kx_ln, Nat.reduceAdd, Option.toList, List.cons_append, List.nil_append, cf10_12, cf10_6, cf10_10, cf10_11, cf6_3, cf6_4])
      repeat' apply And.intro
      all_goals try (first | with_reducible assumption | (with_reducible refine ck_nzI ?_; simp; done) | (with_reducible refine ck_nzL ?_; simp; done) | (with_reducible refine vp_in_nI ?_ ?_ <;> first | omega | decide) | (with_reducible refine Nat.le_of_ble_eq_true ?_; rfl) | omega | exact Or.inl trivial | exact Or.inr trivial | exact Or.inl rfl | exact Or.inr rfl)
      · intro zc55
        first | exact absurd rfl zc55 | exact absurd zc55 (by decide) | exact absurd (by decide) zc55 | (exfalso; first | exact absurd zc16 (by decide) | exact absurd hw (Int32.not_le.mpr zc23) | exact zc55 rfl | exact absurd zc55 (by decide) | exact zc68 rfl | exact absurd zc68 (by decide) | exact absurd ((nI_ltI (a := j + 2) (b := 0) (by omega) (by omega)).mp zc16) (by omega) | exact absurd ((nI_eq (a := j + 2) (b := 0) (by omega) (by omega)).mp (Decidable.not_not.mp zc55)) (by omega) | exact absurd ((nI_eq (a := j + 2) (b := 1) (by omega) (by omega)).mp (Decidable.not_not.mp zc68)) (by omega)) | (exfalso; simp_all; done)
      · intro zc55
        with_reducible first | have ze55 := Decidable.not_not.mp zc55 | have ze55 := zc55
        refine hB bX10_round_58 _ _ _ _ _ _ _ kX10_round_58 ?_
        dsimp only [bX10_round_58, kx_wp, kx_step, kx_lI, kx_lL, kx_lA, kx_gl, kx_pI, kx_pL, kx_pR, kx_pA, kx_pV, kx_s1, kx_s2, kx_sl, kx_pre, kx_c2, kx_pl, kx_cmp, kx_oF, kx_eqN, kx_nil, kx_c1, kx_ft, kx_aI, kx_aL, kx_aR, kx_ln, Nat.reduceAdd, Option.toList, List.cons_append, List.nil_append, cf10_12, cf10_6, cf10_10, cf10_11, cf6_3, cf6_4]
        repeat (simp only [h64, h64s, h78, h78s, ks_eq, ks_ss]; try dsimp only [kx_wp, kx_step, kx_lI, kx_lL, kx_lA, kx_gl, kx_pI, kx_pL, kx_pR, kx_pA, kx_pV, kx_s1, kx_s2, kx_sl, kx_pre, kx_c2, kx_pl, kx_cmp, kx_oF, kx_eqN, kx_nil, kx_c1, kx_ft, kx_aI, kx_aL, kx_aR, kx_ln, Nat.reduceAdd, Option.toList, List.cons_append, List.nil_append, cf10_12, cf10_6, cf10_10, cf10_11, cf6_3, cf6_4])
        all_goals (repeat' apply And.intro)
        all_goals ((try clear hB hC); first | exact True.intro | with_reducible rfl | with_reducible assumption | (with_reducible refine vp_in_nI ?_ ?_ <;> first | omega | decide) | exact Nat.le_of_ble_eq_true rfl | (with_reducible refine ck_nzI ?_; simp; done) | (with_reducible refine ck_nzL ?_; simp; done) | (simp only [pk_us, pk_uLs, zc16, ze16, zc23, ze23, eq_true ze55, ↓reduceIte, not_true_eq_false, not_false_eq_true]; done) | (simp only [zc16, ze16, zc23, ze23, eq_true ze55, ↓reduceIte, not_true_eq_false, not_false_eq_true]; with_reducible rfl) | omega | skip)

set_option maxRecDepth 100000 in
set_option maxHeartbeats 4000000 in
theorem ct_X10_round_1 (l : Launch) (G : kx_G) {P : kx_P} {sz : Nat} {sv : Value} {K : Nat → Int32} (h64 : P 64 = kO 10 (kf (cr10 sv) K)) {O B Fr : Nat → Int32} {cv : Value} (h78 : P 78 = kO 6 (kf (cr6 cv) Fr)) (h79 : P 79 = kI 0 6 O) (h80 : P 80 = kI 0 6 B) {cl : Nat} (hcl : cl ≤ 8) {cn wn : Nat → Nat} {DD : Nat → Int64} {HH : Nat → Value} {CC VV : Nat → Nat → Int32} (hCS : cx_CS P cl cn wn DD HH CC VV) {b : Int32} (hac : cx_ac b (K 7) 6 = 1) (hw : 1 ≤ 1 + cj_bc b)  : kx_M l G sX10_round 20 0 0 [.ref 64, .int (b), .int (1)] P sz (some (.int ((cx_go CC VV cl 6 (upd (upd Fr 3 1000000000) 4 1000000000, O, B) 0 b (K 10) (K 11) 0 0).1 4))) (rW P (cx_go CC VV cl 6 (upd (upd Fr 3 1000000000) 4 1000000000, O, B) 0 b (K 10) (K 11) 0 0)) sz := by
  have hRW : kx_set (kx_set (kx_set P 79 (kI 0 6 O)) 80 (kI 0 6 B)) 78 (kO 6 (kf (cr6 cv) Fr)) = P := by rw [ks_id h79, ks_id h80, ks_id h78]
  have hm9 := ct_X6_seek l G (sz := sz) hcl hCS (F := Fr) (O := O) (B := B) (cv := cv) (bits := b) (x := K 10) (y := K 11)
  rw [hRW] at hm9
  have h64s : ∀ T, rW P T 64 = kO 10 (kf (cr10 sv) K) := fun T => (rW_o (by decide) (by decide) (by decide)).trans h64
  have h78s : ∀ T, rW P T 78 = kO 6 (kf (cr6 (.ref 69)) T.1) := fun T => rW_78
  have h80s : ∀ T, rW P T 80 = kI 0 6 T.2.2 := fun T => rW_80
  refine kx_mk kx_tab kxLok_X10 (ini := false) [some (.ref 64), some (.int (b)), some (.int (1)), none] ⟨by decide, rfl, by decide, by decide⟩ (⟨_, rfl⟩) rfl rfl (fun g hB hC => ?_)
  refine hB bX10_round_0 _ _ _ _ _ _ _ kX10_round_0 ?_
  dsimp only [bX10_round_0, kx_wp, kx_step, kx_lI, kx_lL, kx_lA, kx_gl, kx_pI, kx_pL, kx_pR, kx_pA, kx_pV, kx_s1, kx_s2, kx_sl, kx_pre, kx_c2, kx_pl, kx_cmp, kx_oF, kx_eqN, kx_nil, kx_c1, kx_ft, kx_aI, kx_aL, kx_aR, kx_ln, Nat.reduceAdd, Option.toList, List.cons_append, List.nil_append, cf10_12, cf10_6, cf10_10, cf10_11, cf6_3, cf6_4]
  repeat (simp only [h64, h64s, h78, h78s, ks_eq, ks_ss]; try dsimp only [kx_wp, kx_step, kx_lI, kx_lL, kx_lA, kx_gl, kx_pI, kx_pL, kx_pR, kx_pA, kx_pV, kx_s1, kx_s2, kx_sl, kx_pre, kx_c2, kx_pl, kx_cmp, kx_oF, kx_eqN, kx_nil, kx_c1, kx_ft, kx_aI, kx_aL, kx_aR, kx_ln, Nat.reduceAdd, Option.toList, List.cons_append, List.nil_append, cf10_12, cf10_6, cf10_10, cf10_11, cf6_3, cf6_4])
  repeat' apply And.intro
  all_goals try (first | with_reducible assumption | (with_reducible refine ck_nzI ?_; simp; done) | (with_reducible refine ck_nzL ?_; simp; done) | (with_reducible refine vp_in_nI ?_ ?_ <;> first | omega | decide) | (with_reducible refine Nat.le_of_ble_eq_true ?_; rfl) | omega | exact Or.inl trivial | exact Or.inr trivial | exact Or.inl rfl | exact Or.inr rfl)
  refine hC.1 261 _ _ _ _ _ _ _ 10 _ _ _ _ _ _ _ _ _ _ _ _ lX10_261 (ct_X10_areClocks l G h64) ⟨by decide, rfl⟩ (h64) rfl rfl (Nat.le_of_ble_eq_true rfl) (by first | decide | omega) (by decide) (by omega) (by omega) dX10_round_4 ?_
  rw [hac]
  refine hC.2.1 95 _ _ _ _ _ _ _ _ _ _ _ _ _ _ _ _ _ lX10_95 (ct_X10_need l G (b := 1) (by decide)) rfl rfl (Nat.le_of_ble_eq_true rfl) (by first | decide | omega) (by decide) (by omega) (by omega) dX10_round_7 ?_
  refine hB bX10_round_10 _ _ _ _ _ _ _ kX10_round_10 ?_
  dsimp only [bX10_round_10, kx_wp, kx_step, kx_lI, kx_lL, kx_lA, kx_gl, kx_pI, kx_pL, kx_pR, kx_pA, kx_pV, kx_s1, kx_s2, kx_sl, kx_pre, kx_c2, kx_pl, kx_cmp, kx_oF, kx_eqN, kx_nil, kx_c1, kx_ft, kx_aI, kx_aL, kx_aR, kx_ln, Nat.reduceAdd, Option.toList, List.cons_append, List.nil_append, cf10_12, cf10_6, cf10_10, cf10_11, cf6_3, cf6_4]
  repeat (simp only [h64, h64s, h78, h78s, ks_eq, ks_ss]; try dsimp only [kx_wp, kx_step, kx_lI, kx_lL, kx_lA, kx_gl, kx_pI, kx_pL, kx_pR, kx_pA, kx_pV, kx_s1, kx_s2, kx_sl, kx_pre, kx_c2, kx_pl, kx_cmp, kx_oF, kx_eqN, kx_nil, kx_c1, kx_ft, kx_aI, kx_aL, kx_aR, kx_ln, Nat.reduceAdd, Option.toList, List.cons_append, List.nil_append, cf10_12, cf10_6, cf10_10, cf10_11, cf6_3, cf6_4])
  repeat' apply And.intro
  all_goals try (first | with_reducible assumption | (with_reducible refine ck_nzI ?_; simp; done) | (with_reducible refine ck_nzL ?_; simp; done) | (with_reducible refine vp_in_nI ?_ ?_ <;> first | omega | decide) | (with_reducible refine Nat.le_of_ble_eq_true ?_; rfl) | omega | exact Or.inl trivial | exact Or.inr trivial | exact Or.inl rfl | exact Or.inr rfl)
  refine hC.2.1 264 _ _ _ _ _ _ _ _ _ _ _ _ _ _ _ _ _ lX10_264 (ct_J6_bitCount_0f7a4 l G) rfl rfl (Nat.le_of_ble_eq_true rfl) (by first | decide | omega) (by decide) (by omega) (by omega) dX10_round_11 ?_
  refine hB bX10_round_14 _ _ _ _ _ _ _ kX10_round_14 ?_
  dsimp only [bX10_round_14, kx_wp, kx_step, kx_lI, kx_lL, kx_lA, kx_gl, kx_pI, kx_pL, kx_pR, kx_pA, kx_pV, kx_s1, kx_s2, kx_sl, kx_pre, kx_c2, kx_pl, kx_cmp, kx_oF, kx_eqN, kx_nil, kx_c1, kx_ft, kx_aI, kx_aL, kx_aR, kx_ln, Nat.reduceAdd, Option.toList, List.cons_append, List.nil_append, cf10_12, cf10_6, cf10_10, cf10_11, cf6_3, cf6_4]
  repeat (simp only [h64, h64s, h78, h78s, ks_eq, ks_ss]; try dsimp only [kx_wp, kx_step, kx_lI, kx_lL, kx_lA, kx_gl, kx_pI, kx_pL, kx_pR, kx_pA, kx_pV, kx_s1, kx_s2, kx_sl, kx_pre, kx_c2, kx_pl, kx_cmp, kx_oF, kx_eqN, kx_nil, kx_c1, kx_ft, kx_aI, kx_aL, kx_aR, kx_ln, Nat.reduceAdd, Option.toList, List.cons_append, List.nil_append, cf10_12, cf10_6, cf10_10, cf10_11, cf6_3, cf6_4])
  repeat' apply And.intro
  all_goals try (first | with_reducible assumption | (with_reducible refine ck_nzI ?_; simp; done) | (with_reducible refine ck_nzL ?_; simp; done) | (with_reducible refine vp_in_nI ?_ ?_ <;> first | omega | decide) | (with_reducible refine Nat.le_of_ble_eq_true ?_; rfl) | omega | exact Or.inl trivial | exact Or.inr trivial | exact Or.inl rfl | exact Or.inr rfl)
  · intro zc16
    first | exact absurd rfl zc16 | exact absurd zc16 (by decide) | exact absurd (by decide) zc16 | (exfalso; first | exact absurd zc16 (by decide) | exact absurd hw (Int32.not_le.mpr zc23) | exact zc55 rfl | exact absurd zc55 (by decide) | exact zc68 rfl | exact absurd zc68 (by decide) | exact absurd ((nI_ltI (a := j + 2) (b := 0) (by omega) (by omega)).mp zc16) (by omega) | exact absurd ((nI_eq (a := j + 2) (b := 0) (by omega) (by omega)).mp (Decidable.not_not.mp zc55)) (by omega) | exact absurd ((nI_eq (a := j + 2) (b := 1) (by omega) (by omega)).mp (Decidable.not_not.mp zc68)) (by omega)) | (exfalso; simp_all; done)
  · intro zc16
    with_reducible first | have ze16 := Int32.not_lt.mp zc16 | have ze16 := zc16
    refine hB bX10_round_19 _ _ _ _ _ _ _ kX10_round_19 ?_
    dsimp only [bX10_round_19, kx_wp, kx_step, kx_lI, kx_lL, kx_lA, kx_gl, kx_pI, kx_pL, kx_pR, kx_pA, kx_pV, kx_s1, kx_s2, kx_sl, kx_pre, kx_c2, kx_pl, kx_cmp, kx_oF, kx_eqN, kx_nil, kx_c1, kx_ft, kx_aI, kx_aL, kx_aR, kx_ln, Nat.reduceAdd, Option.toList, List.cons_append, List.nil_append, cf10_12, cf10_6, cf10_10, cf10_11, cf6_3, cf6_4]
    repeat (simp only [h64, h64s, h78, h78s, ks_eq, ks_ss]; try dsimp only [kx_wp, kx_step, kx_lI, kx_lL, kx_lA, kx_gl, kx_pI, kx_pL, kx_pR, kx_pA, kx_pV, kx_s1, kx_s2, kx_sl, kx_pre, kx_c2, kx_pl, kx_cmp, kx_oF, kx_eqN, kx_nil, kx_c1, kx_ft, kx_aI, kx_aL, kx_aR, kx_ln, Nat.reduceAdd, Option.toList, List.cons_append, List.nil_append, cf10_12, cf10_6, cf10_10, cf10_11, cf6_3, cf6_4])
    repeat' apply And.intro
    all_goals try (first | with_reducible assumption | (with_reducible refine ck_nzI ?_; simp; done) | (with_reducible refine ck_nzL ?_; simp; done) | (with_reducible refine vp_in_nI ?_ ?_ <;> first | omega | decide) | (with_reducible refine Nat.le_of_ble_eq_true ?_; rfl) | omega | exact Or.inl trivial | exact Or.inr trivial | exact Or.inl rfl | exact Or.inr rfl)
    · intro zc23
      first | exact absurd rfl zc23 | exact absurd zc23 (by decide) | exact absurd (by decide) zc23 | (exfalso; first | exact absurd zc16 (by decide) | exact absurd hw (Int32.not_le.mpr zc23) | exact zc55 rfl | exact absurd zc55 (by decide) | exact zc68 rfl | exact absurd zc68 (by decide) | exact absurd ((nI_ltI (a := j + 2) (b := 0) (by omega) (by omega)).mp zc16) (by omega) | exact absurd ((nI_eq (a := j + 2) (b := 0) (by omega) (by omega)).mp (Decidable.not_not.mp zc55)) (by omega) | exact absurd ((nI_eq (a := j + 2) (b := 1) (by omega) (by omega)).mp (Decidable.not_not.mp zc68)) (by omega)) | (exfalso; simp_all; done)
    · intro zc23
      with_reducible first | have ze23 := Int32.not_lt.mp zc23 | have ze23 := zc23
      refine hB bX10_round_26 _ _ _ _ _ _ _ kX10_round_26 ?_
      dsimp only [bX10_round_26, kx_wp, kx_step, kx_lI, kx_lL, kx_lA, kx_gl, kx_pI, kx_pL, kx_pR, kx_pA, kx_pV, kx_s1, kx_s2, kx_sl, kx_pre, kx_c2, kx_pl, kx_cmp, kx_oF, kx_eqN, kx_nil, kx_c1, kx_ft, kx_aI, kx_aL, kx_aR, kx_ln, Nat.reduceAdd, Option.toList, List.cons_append, List.nil_append, cf10_12, cf10_6, cf10_10, cf10_11, cf6_3, cf6_4]
      repeat (simp only [h64, h64s, h78, h78s, ks_eq, ks_ss]; try dsimp only [kx_wp, kx_step, kx_lI, kx_lL, kx_lA, kx_gl, kx_pI, kx_pL, kx_pR, kx_pA, kx_pV, kx_s1, kx_s2, kx_sl, kx_pre, kx_c2, kx_pl, kx_cmp, kx_oF, kx_eqN, kx_nil, kx_c1, kx_ft, kx_aI, kx_aL, kx_aR, kx_ln, Nat.reduceAdd, Option.toList, List.cons_append, List.nil_append, cf10_12, cf10_6, cf10_10, cf10_11, cf6_3, cf6_4])
      repeat' apply And.intro
      all_goals try (first | with_reducible assumption | (with_reducible refine ck_nzI ?_; simp; done) | (with_reducible refine ck_nzL ?_; simp; done) | (with_reducible refine vp_in_nI ?_ ?_ <;> first | omega | decide) | (with_reducible refine Nat.le_of_ble_eq_true ?_; rfl) | omega | exact Or.inl trivial | exact Or.inr trivial | exact Or.inl rfl | exact Or.inr rfl)
      refine hC.2.1 95 _ _ _ _ _ _ _ _ _ _ _ _ _ _ _ _ _ lX10_95 (ct_X10_need l G (b := 1) (by decide)) rfl rfl (Nat.le_of_ble_eq_true rfl) (by first | decide | omega) (by decide) (by omega) (by omega) dX10_round_31 ?_
      refine hB bX10_round_34 _ _ _ _ _ _ _ kX10_round_34 ?_
      dsimp only [bX10_round_34, kx_wp, kx_step, kx_lI, kx_lL, kx_lA, kx_gl, kx_pI, kx_pL, kx_pR, kx_pA, kx_pV, kx_s1, kx_s2, kx_sl, kx_pre, kx_c2, kx_pl, kx_cmp, kx_oF, kx_eqN, kx_nil, kx_c1, kx_ft, kx_aI, kx_aL, kx_aR, kx_ln, Nat.reduceAdd, Option.toList, List.cons_append, List.nil_append, cf10_12, cf10_6, cf10_10, cf10_11, cf6_3, cf6_4]
      repeat (simp only [h64, h64s, h78, h78s, ks_eq, ks_ss]; try dsimp only [kx_wp, kx_step, kx_lI, kx_lL, kx_lA, kx_gl, kx_pI, kx_pL, kx_pR, kx_pA, kx_pV, kx_s1, kx_s2, kx_sl, kx_pre, kx_c2, kx_pl, kx_cmp, kx_oF, kx_eqN, kx_nil, kx_c1, kx_ft, kx_aI, kx_aL, kx_aR, kx_ln, Nat.reduceAdd, Option.toList, List.cons_append, List.nil_append, cf10_12, cf10_6, cf10_10, cf10_11, cf6_3, cf6_4])
      repeat' apply And.intro
      all_goals try (first | with_reducible assumption | (with_reducible refine ck_nzI ?_; simp; done) | (with_reducible refine ck_nzL ?_; simp; done) | (with_reducible refine vp_in_nI ?_ ?_ <;> first | omega | decide) | (with_reducible refine Nat.le_of_ble_eq_true ?_; rfl) | omega | exact Or.inl trivial | exact Or.inr trivial | exact Or.inl rfl | exact Or.inr rfl)
      refine hC.1 269 _ _ _ _ _ _ _ 6 _ _ _ _ _ _ _ _ _ _ _ _ lX10_269 (hm9) ⟨by decide, rfl⟩ (h78) rfl rfl (Nat.le_of_ble_eq_true rfl) (by first | decide | omega) (by decide) (by omega) (by omega) dX10_round_51 ?_
      refine hB bX10_round_54 _ _ _ _ _ _ _ kX10_round_54 ?_
      dsimp only [bX10_round_54, kx_wp, kx_step, kx_lI, kx_lL, kx_lA, kx_gl, kx_pI, kx_pL, kx_pR, kx_pA, kx_pV, kx_s1, kx_s2, kx_sl, kx_pre, kx_c2, kx_pl, kx_cmp, kx_oF, kx_eqN, kx_nil, kx_c1, kx_ft, kx_aI, kx_aL, kx_aR, kx_ln, Nat.reduceAdd, Option.toList, List.cons_append, List.nil_append, cf10_12, cf10_6, cf10_10, cf10_11, cf6_3, cf6_4]
      repeat (simp only [h64, h64s, h78, h78s, ks_eq, ks_ss]; try dsimp only [kx_wp, kx_step, kx_lI, kx_lL, kx_lA, kx_gl, kx_pI, kx_pL, kx_pR, kx_pA, kx_pV, kx_s1, kx_s2, kx_sl, kx_pre, kx_c2, kx_pl, kx_cmp, kx_oF, kx_eqN, kx_nil, kx_c1, kx_ft, kx_aI, kx_aL, kx_aR, kx_ln, Nat.reduceAdd, Option.toList, List.cons_append, List.nil_append, cf10_12, cf10_6, cf10_10, cf10_11, cf6_3, cf6_4])
      repeat' apply And.intro
      all_goals try (first | with_reducible assumption | (with_reducible refine ck_nzI ?_; simp; done) | (with_reducible refine ck_nzL ?_; simp; done) | (with_reducible refine vp_in_nI ?_ ?_ <;> first | omega | decide) | (with_reducible refine Nat.le_of_ble_eq_true ?_; rfl) | omega | exact Or.inl trivial | exact Or.inr trivial | exact Or.inl rfl | exact Or.inr rfl)
      · intro zc55
        have ze55 := zc55
        refine hB bX10_round_66 _ _ _ _ _ _ _ kX10_round_66 ?_
        dsimp only [bX10_round_66, kx_wp, kx_step, kx_lI, kx_lL, kx_lA, kx_gl, kx_pI, kx_pL, kx_pR, kx_pA, kx_pV, kx_s1, kx_s2, kx_sl, kx_pre, kx_c2, kx_pl, kx_cmp, kx_oF, kx_eqN, kx_nil, kx_c1, kx_ft, kx_aI, kx_aL, kx_aR, kx_ln, Nat.reduceAdd, Option.toList, List.cons_append, List.nil_append, cf10_12, cf10_6, cf10_10, cf10_11, cf6_3, cf6_4]
        repeat (simp only [h64, h64s, h78, h78s, ks_eq, ks_ss]; try dsimp only [kx_wp, kx_step, kx_lI, kx_lL, kx_lA, kx_gl, kx_pI, kx_pL, kx_pR, kx_pA, kx_pV, kx_s1, kx_s2, kx_sl, kx_pre, kx_c2, kx_pl, kx_cmp, kx_oF, kx_eqN, kx_nil, kx_c1, kx_ft, kx_aI, kx_aL, kx_aR, kx_ln, Nat.reduceAdd, Option.toList, List.cons_append, List.nil_append, cf10_12, cf10_6, cf10_10, cf10_11, cf6_3, cf6_4])
        repeat' apply And.intro
        all_goals try (first | with_reducible assumption | (with_reducible refine ck_nzI ?_; simp; done) | (with_reducible refine ck_nzL ?_; simp; done) | (with_reducible refine vp_in_nI ?_ ?_ <;> first | omega | decide) | (with_reducible refine Nat.le_of_ble_eq_true ?_; rfl) | omega | exact Or.inl trivial | exact Or.inr trivial | exact Or.inl rfl | exact Or.inr rfl)
        · intro zc68
          first | exact absurd rfl zc68 | exact absurd zc68 (by decide) | exact absurd (by decide) zc68 | (exfalso; first | exact absurd zc16 (by decide) | exact absurd hw (Int32.not_le.mpr zc23) | exact zc55 rfl | exact absurd zc55 (by decide) | exact zc68 rfl | exact absurd zc68 (by decide) | exact absurd ((nI_ltI (a := j + 2) (b := 0) (by omega) (by omega)).mp zc16) (by omega) | exact absurd ((nI_eq (a := j + 2) (b := 0) (by omega) (by omega)).mp (Decidable.not_not.mp zc55)) (by omega) | exact absurd ((nI_eq (a := j + 2) (b := 1) (by omega) (by omega)).mp (Decidable.not_not.mp zc68)) (by omega)) | (exfalso; simp_all; done)
        · intro zc68
          with_reducible first | have ze68 := Decidable.not_not.mp zc68 | have ze68 := zc68
          refine hB bX10_round_71 _ _ _ _ _ _ _ kX10_round_71 ?_
          dsimp only [bX10_round_71, kx_wp, kx_step, kx_lI, kx_lL, kx_lA, kx_gl, kx_pI, kx_pL, kx_pR, kx_pA, kx_pV, kx_s1, kx_s2, kx_sl, kx_pre, kx_c2, kx_pl, kx_cmp, kx_oF, kx_eqN, kx_nil, kx_c1, kx_ft, kx_aI, kx_aL, kx_aR, kx_ln, Nat.reduceAdd, Option.toList, List.cons_append, List.nil_append, cf10_12, cf10_6, cf10_10, cf10_11, cf6_3, cf6_4]
          repeat (simp only [h64, h64s, h78, h78s, ks_eq, ks_ss]; try dsimp only [kx_wp, kx_step, kx_lI, kx_lL, kx_lA, kx_gl, kx_pI, kx_pL, kx_pR, kx_pA, kx_pV, kx_s1, kx_s2, kx_sl, kx_pre, kx_c2, kx_pl, kx_cmp, kx_oF, kx_eqN, kx_nil, kx_c1, kx_ft, kx_aI, kx_aL, kx_aR, kx_ln, Nat.reduceAdd, Option.toList, List.cons_append, List.nil_append, cf10_12, cf10_6, cf10_10, cf10_11, cf6_3, cf6_4])
          repeat' apply And.intro
          all_goals try (first | with_reducible assumption | (with_reducible refine ck_nzI ?_; simp; done) | (with_reducible refine ck_nzL ?_; simp; done) | (with_reducible refine vp_in_nI ?_ ?_ <;> first | omega | decide) | (with_reducible refine Nat.le_of_ble_eq_true ?_; rfl) | omega | exact Or.inl trivial | exact Or.inr trivial | exact Or.inl rfl | exact Or.inr rfl)
          refine hB bX10_round_91 _ _ _ _ _ _ _ kX10_round_91 ?_
          dsimp only [bX10_round_91, kx_wp, kx_step, kx_lI, kx_lL, kx_lA, kx_gl, kx_pI, kx_pL, kx_pR, kx_pA, kx_pV, kx_s1, kx_s2, kx_sl, kx_pre, kx_c2, kx_pl, kx_cmp, kx_oF, kx_eqN, kx_nil, kx_c1, kx_ft, kx_aI, kx_aL, kx_aR, kx_ln, Nat.reduceAdd, Option.toList, List.cons_append, List.nil_append, cf10_12, cf10_6, cf10_10, cf10_11, cf6_3, cf6_4]
          repeat (simp only [h64, h64s, h78, h78s, ks_eq, ks_ss]; try dsimp only [kx_wp, kx_step, kx_lI, kx_lL, kx_lA, kx_gl, kx_pI, kx_pL, kx_pR, kx_pA, kx_pV, kx_s1, kx_s2, kx_sl, kx_pre, kx_c2, kx_pl, kx_cmp, kx_oF, kx_eqN, kx_nil, kx_c1, kx_ft, kx_aI, kx_aL, kx_aR, kx_ln, Nat.reduceAdd, Option.toList, List.cons_append, List.nil_append, cf10_12, cf10_6, cf10_10, cf10_11, cf6_3, cf6_4])
          all_goals (repeat' apply And.intro)
          all_goals ((try clear hB hC); first | exact True.intro | with_reducible rfl | with_reducible assumption | (with_reducible refine vp_in_nI ?_ ?_ <;> first | omega | decide) | exact Nat.le_of_ble_eq_true rfl | (with_reducible refine ck_nzI ?_; simp; done) | (with_reducible refine ck_nzL ?_; simp; done) | (simp only [pk_us, pk_uLs, zc16, ze16, zc23, ze23, ze55, eq_true ze68, ↓reduceIte, not_true_eq_false, not_false_eq_true]; done) | (simp only [zc16, ze16, zc23, ze23, ze55, eq_true ze68, ↓reduceIte, not_true_eq_false, not_false_eq_true]; with_reducible rfl) | omega | skip)
      · intro zc55
        first | exact absurd rfl zc55 | exact absurd zc55 (by decide) | exact absurd (by decide) zc55 | (exfalso; first | exact absurd zc16 (by decide) | exact absurd hw (Int32.not_le.mpr zc23) | exact zc55 rfl | exact absurd zc55 (by decide) | exact zc68 rfl | exact absurd zc68 (by decide) | exact absurd ((nI_ltI (a := j + 2) (b := 0) (by omega) (by omega)).mp zc16) (by omega) | exact absurd ((nI_eq (a := j + 2) (b := 0) (by omega) (by omega)).mp (Decidable.not_not.mp zc55)) (by omega) | exact absurd ((nI_eq (a := j + 2) (b := 1) (by omega) (by omega)).mp (Decidable.not_not.mp zc68)) (by omega)) | (exfalso; simp_all; done)

set_option maxRecDepth 100000 in
set_option maxHeartbeats 4000000 in
theorem ct_X10_round_2 (l : Launch) (G : kx_G) {P : kx_P} {sz : Nat} {sv : Value} {K : Nat → Int32} (h64 : P 64 = kO 10 (kf (cr10 sv) K)) {O B Fr : Nat → Int32} {cv : Value} (h78 : P 78 = kO 6 (kf (cr6 cv) Fr)) (h79 : P 79 = kI 0 6 O) (h80 : P 80 = kI 0 6 B) {cl : Nat} (hcl : cl ≤ 8) {cn wn : Nat → Nat} {DD : Nat → Int64} {HH : Nat → Value} {CC VV : Nat → Nat → Int32} (hCS : cx_CS P cl cn wn DD HH CC VV) {b : Int32} (hac : cx_ac b (K 7) 6 = 1) {j : Nat} (hj : j < 6) (hw : nI (j + 2) ≤ 1 + cj_bc b)  : kx_M l G sX10_round 20 0 0 [.ref 64, .int (b), .int (nI (j + 2))] P sz (some (.int ((cx_go CC VV cl 6 (upd (upd Fr 3 1000000000) 4 1000000000, O, B) 0 b (K 10) (K 11) 0 0).2.2 j))) (rW P (cx_go CC VV cl 6 (upd (upd Fr 3 1000000000) 4 1000000000, O, B) 0 b (K 10) (K 11) 0 0)) sz := by
  have hRW : kx_set (kx_set (kx_set P 79 (kI 0 6 O)) 80 (kI 0 6 B)) 78 (kO 6 (kf (cr6 cv) Fr)) = P := by rw [ks_id h79, ks_id h80, ks_id h78]
  have hm9 := ct_X6_seek l G (sz := sz) hcl hCS (F := Fr) (O := O) (B := B) (cv := cv) (bits := b) (x := K 10) (y := K 11)
  rw [hRW] at hm9
  have h64s : ∀ T, rW P T 64 = kO 10 (kf (cr10 sv) K) := fun T => (rW_o (by decide) (by decide) (by decide)).trans h64
  have h78s : ∀ T, rW P T 78 = kO 6 (kf (cr6 (.ref 69)) T.1) := fun T => rW_78
  have h80s : ∀ T, rW P T 80 = kI 0 6 T.2.2 := fun T => rW_80
  have ej : nI (j + 2) - 2 = nI j := pk_sub (by omega : 2 ≤ j + 2)
  refine kx_mk kx_tab kxLok_X10 (ini := false) [some (.ref 64), some (.int (b)), some (.int (nI (j + 2))), none] ⟨by decide, rfl, by decide, by decide⟩ (⟨_, rfl⟩) rfl rfl (fun g hB hC => ?_)
  refine hB bX10_round_0 _ _ _ _ _ _ _ kX10_round_0 ?_
  dsimp only [bX10_round_0, kx_wp, kx_step, kx_lI, kx_lL, kx_lA, kx_gl, kx_pI, kx_pL, kx_pR, kx_pA, kx_pV, kx_s1, kx_s2, kx_sl, kx_pre, kx_c2, kx_pl, kx_cmp, kx_oF, kx_eqN, kx_nil, kx_c1, kx_ft, kx_aI, kx_aL, kx_aR, kx_ln, Nat.reduceAdd, Option.toList, List.cons_append, List.nil_append, cf10_12, cf10_6, cf10_10, cf10_11, cf6_3, cf6_4]
  repeat (simp only [h64, h64s, h78, h78s, ej, ks_eq, ks_ss]; try dsimp only [kx_wp, kx_step, kx_lI, kx_lL, kx_lA, kx_gl, kx_pI, kx_pL, kx_pR, kx_pA, kx_pV, kx_s1, kx_s2, kx_sl, kx_pre, kx_c2, kx_pl, kx_cmp, kx_oF, kx_eqN, kx_nil, kx_c1, kx_ft, kx_aI, kx_aL, kx_aR, kx_ln, Nat.reduceAdd, Option.toList, List.cons_append, List.nil_append, cf10_12, cf10_6, cf10_10, cf10_11, cf6_3, cf6_4])
  repeat' apply And.intro
  all_goals try (first | with_reducible assumption | (with_reducible refine ck_nzI ?_; simp; done) | (with_reducible refine ck_nzL ?_; simp; done) | (with_reducible refine vp_in_nI ?_ ?_ <;> first | omega | decide) | (with_reducible refine Nat.le_of_ble_eq_true ?_; rfl) | omega | exact Or.inl trivial | exact Or.inr trivial | exact Or.inl rfl | exact Or.inr rfl)
  refine hC.1 261 _ _ _ _ _ _ _ 10 _ _ _ _ _ _ _ _ _ _ _ _ lX10_261 (ct_X10_areClocks l G h64) ⟨by decide, rfl⟩ (h64) rfl rfl (Nat.le_of_ble_eq_true rfl) (by first | decide | omega) (by decide) (by omega) (by omega) dX10_round_4 ?_
  rw [hac]
  refine hC.2.1 95 _ _ _ _ _ _ _ _ _ _ _ _ _ _ _ _ _ lX10_95 (ct_X10_need l G (b := 1) (by decide)) rfl rfl (Nat.le_of_ble_eq_true rfl) (by first | decide | omega) (by decide) (by omega) (by omega) dX10_round_7 ?_
  refine hB bX10_round_10 _ _ _ _ _ _ _ kX10_round_10 ?_
  dsimp only [bX10_round_10, kx_wp, kx_step, kx_lI, kx_lL, kx_lA, kx_gl, kx_pI, kx_pL, kx_pR, kx_pA, kx_pV, kx_s1, kx_s2, kx_sl, kx_pre, kx_c2, kx_pl, kx_cmp, kx_oF, kx_eqN, kx_nil, kx_c1, kx_ft, kx_aI, kx_aL, kx_aR, kx_ln, Nat.reduceAdd, Option.toList, List.cons_append, List.nil_append, cf10_12, cf10_6, cf10_10, cf10_11, cf6_3, cf6_4]
  repeat (simp only [h64, h64s, h78, h78s, ej, ks_eq, ks_ss]; try dsimp only [kx_wp, kx_step, kx_lI, kx_lL, kx_lA, kx_gl, kx_pI, kx_pL, kx_pR, kx_pA, kx_pV, kx_s1, kx_s2, kx_sl, kx_pre, kx_c2, kx_pl, kx_cmp, kx_oF, kx_eqN, kx_nil, kx_c1, kx_ft, kx_aI, kx_aL, kx_aR, kx_ln, Nat.reduceAdd, Option.toList, List.cons_append, List.nil_append, cf10_12, cf10_6, cf10_10, cf10_11, cf6_3, cf6_4])
  repeat' apply And.intro
  all_goals try (first | with_reducible assumption | (with_reducible refine ck_nzI ?_; simp; done) | (with_reducible refine ck_nzL ?_; simp; done) | (with_reducible refine vp_in_nI ?_ ?_ <;> first | omega | decide) | (with_reducible refine Nat.le_of_ble_eq_true ?_; rfl) | omega | exact Or.inl trivial | exact Or.inr trivial | exact Or.inl rfl | exact Or.inr rfl)
  refine hC.2.1 264 _ _ _ _ _ _ _ _ _ _ _ _ _ _ _ _ _ lX10_264 (ct_J6_bitCount_0f7a4 l G) rfl rfl (Nat.le_of_ble_eq_true rfl) (by first | decide | omega) (by decide) (by omega) (by omega) dX10_round_11 ?_
  refine hB bX10_round_14 _ _ _ _ _ _ _ kX10_round_14 ?_
  dsimp only [bX10_round_14, kx_wp, kx_step, kx_lI, kx_lL, kx_lA, kx_gl, kx_pI, kx_pL, kx_pR, kx_pA, kx_pV, kx_s1, kx_s2, kx_sl, kx_pre, kx_c2, kx_pl, kx_cmp, kx_oF, kx_eqN, kx_nil, kx_c1, kx_ft, kx_aI, kx_aL, kx_aR, kx_ln, Nat.reduceAdd, Option.toList, List.cons_append, List.nil_append, cf10_12, cf10_6, cf10_10, cf10_11, cf6_3, cf6_4]
  repeat (simp only [h64, h64s, h78, h78s, ej, ks_eq, ks_ss]; try dsimp only [kx_wp, kx_step, kx_lI, kx_lL, kx_lA, kx_gl, kx_pI, kx_pL, kx_pR, kx_pA, kx_pV, kx_s1, kx_s2, kx_sl, kx_pre, kx_c2, kx_pl, kx_cmp, kx_oF, kx_eqN, kx_nil, kx_c1, kx_ft, kx_aI, kx_aL, kx_aR, kx_ln, Nat.reduceAdd, Option.toList, List.cons_append, List.nil_append, cf10_12, cf10_6, cf10_10, cf10_11, cf6_3, cf6_4])
  repeat' apply And.intro
  all_goals try (first | with_reducible assumption | (with_reducible refine ck_nzI ?_; simp; done) | (with_reducible refine ck_nzL ?_; simp; done) | (with_reducible refine vp_in_nI ?_ ?_ <;> first | omega | decide) | (with_reducible refine Nat.le_of_ble_eq_true ?_; rfl) | omega | exact Or.inl trivial | exact Or.inr trivial | exact Or.inl rfl | exact Or.inr rfl)
  · intro zc16
    first | exact absurd rfl zc16 | exact absurd zc16 (by decide) | exact absurd (by decide) zc16 | (exfalso; first | exact absurd zc16 (by decide) | exact absurd hw (Int32.not_le.mpr zc23) | exact zc55 rfl | exact absurd zc55 (by decide) | exact zc68 rfl | exact absurd zc68 (by decide) | exact absurd ((nI_ltI (a := j + 2) (b := 0) (by omega) (by omega)).mp zc16) (by omega) | exact absurd ((nI_eq (a := j + 2) (b := 0) (by omega) (by omega)).mp (Decidable.not_not.mp zc55)) (by omega) | exact absurd ((nI_eq (a := j + 2) (b := 1) (by omega) (by omega)).mp (Decidable.not_not.mp zc68)) (by omega)) | (exfalso; simp_all; done)
  · intro zc16
    with_reducible first | have ze16 := Int32.not_lt.mp zc16 | have ze16 := zc16
    refine hB bX10_round_19 _ _ _ _ _ _ _ kX10_round_19 ?_
    dsimp only [bX10_round_19, kx_wp, kx_step, kx_lI, kx_lL, kx_lA, kx_gl, kx_pI, kx_pL, kx_pR, kx_pA, kx_pV, kx_s1, kx_s2, kx_sl, kx_pre, kx_c2, kx_pl, kx_cmp, kx_oF, kx_eqN, kx_nil, kx_c1, kx_ft, kx_aI, kx_aL, kx_aR, kx_ln, Nat.reduceAdd, Option.toList, List.cons_append, List.nil_append, cf10_12, cf10_6, cf10_10, cf10_11, cf6_3, cf6_4]
    repeat (simp only [h64, h64s, h78, h78s, ej, ks_eq, ks_ss]; try dsimp only [kx_wp, kx_step, kx_lI, kx_lL, kx_lA, kx_gl, kx_pI, kx_pL, kx_pR, kx_pA, kx_pV, kx_s1, kx_s2, kx_sl, kx_pre, kx_c2, kx_pl, kx_cmp, kx_oF, kx_eqN, kx_nil, kx_c1, kx_ft, kx_aI, kx_aL, kx_aR, kx_ln, Nat.reduceAdd, Option.toList, List.cons_append, List.nil_append, cf10_12, cf10_6, cf10_10, cf10_11, cf6_3, cf6_4])
    repeat' apply And.intro
    all_goals try (first | with_reducible assumption | (with_reducible refine ck_nzI ?_; simp; done) | (with_reducible refine ck_nzL ?_; simp; done) | (with_reducible refine vp_in_nI ?_ ?_ <;> first | omega | decide) | (with_reducible refine Nat.le_of_ble_eq_true ?_; rfl) | omega | exact Or.inl trivial | exact Or.inr trivial | exact Or.inl rfl | exact Or.inr rfl)
    · intro zc23
      first | exact absurd rfl zc23 | exact absurd zc23 (by decide) | exact absurd (by decide) zc23 | (exfalso; first | exact absurd zc16 (by decide) | exact absurd hw (Int32.not_le.mpr zc23) | exact zc55 rfl | exact absurd zc55 (by decide) | exact zc68 rfl | exact absurd zc68 (by decide) | exact absurd ((nI_ltI (a := j + 2) (b := 0) (by omega) (by omega)).mp zc16) (by omega) | exact absurd ((nI_eq (a := j + 2) (b := 0) (by omega) (by omega)).mp (Decidable.not_not.mp zc55)) (by omega) | exact absurd ((nI_eq (a := j + 2) (b := 1) (by omega) (by omega)).mp (Decidable.not_not.mp zc68)) (by omega)) | (exfalso; simp_all; done)
    · intro zc23
      with_reducible first | have ze23 := Int32.not_lt.mp zc23 | have ze23 := zc23
      refine hB bX10_round_26 _ _ _ _ _ _ _ kX10_round_26 ?_
      dsimp only [bX10_round_26, kx_wp, kx_step, kx_lI, kx_lL, kx_lA, kx_gl, kx_pI, kx_pL, kx_pR, kx_pA, kx_pV, kx_s1, kx_s2, kx_sl, kx_pre, kx_c2, kx_pl, kx_cmp, kx_oF, kx_eqN, kx_nil, kx_c1, kx_ft, kx_aI, kx_aL, kx_aR, kx_ln, Nat.reduceAdd, Option.toList, List.cons_append, List.nil_append, cf10_12, cf10_6, cf10_10, cf10_11, cf6_3, cf6_4]
      repeat (simp only [h64, h64s, h78, h78s, ej, ks_eq, ks_ss]; try dsimp only [kx_wp, kx_step, kx_lI, kx_lL, kx_lA, kx_gl, kx_pI, kx_pL, kx_pR, kx_pA, kx_pV, kx_s1, kx_s2, kx_sl, kx_pre, kx_c2, kx_pl, kx_cmp, kx_oF, kx_eqN, kx_nil, kx_c1, kx_ft, kx_aI, kx_aL, kx_aR, kx_ln, Nat.reduceAdd, Option.toList, List.cons_append, List.nil_append, cf10_12, cf10_6, cf10_10, cf10_11, cf6_3, cf6_4])
      repeat' apply And.intro
      all_goals try (first | with_reducible assumption | (with_reducible refine ck_nzI ?_; simp; done) | (with_reducible refine ck_nzL ?_; simp; done) | (with_reducible refine vp_in_nI ?_ ?_ <;> first | omega | decide) | (with_reducible refine Nat.le_of_ble_eq_true ?_; rfl) | omega | exact Or.inl trivial | exact Or.inr trivial | exact Or.inl rfl | exact Or.inr rfl)
      refine hC.2.1 95 _ _ _ _ _ _ _ _ _ _ _ _ _ _ _ _ _ lX10_95 (ct_X10_need l G (b := 1) (by decide)) rfl rfl (Nat.le_of_ble_eq_true rfl) (by first | decide | omega) (by decide) (by omega) (by omega) dX10_round_31 ?_
      refine hB bX10_round_34 _ _ _ _ _ _ _ kX10_round_34 ?_
      dsimp only [bX10_round_34, kx_wp, kx_step, kx_lI, kx_lL, kx_lA, kx_gl, kx_pI, kx_pL, kx_pR, kx_pA, kx_pV, kx_s1, kx_s2, kx_sl, kx_pre, kx_c2, kx_pl, kx_cmp, kx_oF, kx_eqN, kx_nil, kx_c1, kx_ft, kx_aI, kx_aL, kx_aR, kx_ln, Nat.reduceAdd, Option.toList, List.cons_append, List.nil_append, cf10_12, cf10_6, cf10_10, cf10_11, cf6_3, cf6_4]
      repeat (simp only [h64, h64s, h78, h78s, ej, ks_eq, ks_ss]; try dsimp only [kx_wp, kx_step, kx_lI, kx_lL, kx_lA, kx_gl, kx_pI, kx_pL, kx_pR, kx_pA, kx_pV, kx_s1, kx_s2, kx_sl, kx_pre, kx_c2, kx_pl, kx_cmp, kx_oF, kx_eqN, kx_nil, kx_c1, kx_ft, kx_aI, kx_aL, kx_aR, kx_ln, Nat.reduceAdd, Option.toList, List.cons_append, List.nil_append, cf10_12, cf10_6, cf10_10, cf10_11, cf6_3, cf6_4])
      repeat' apply And.intro
      all_goals try (first | with_reducible assumption | (with_reducible refine ck_nzI ?_; simp; done) | (with_reducible refine ck_nzL ?_; simp; done) | (with_reducible refine vp_in_nI ?_ ?_ <;> first | omega | decide) | (with_reducible refine Nat.le_of_ble_eq_true ?_; rfl) | omega | exact Or.inl trivial | exact Or.inr trivial | exact Or.inl rfl | exact Or.inr rfl)
      refine hC.1 269 _ _ _ _ _ _ _ 6 _ _ _ _ _ _ _ _ _ _ _ _ lX10_269 (hm9) ⟨by decide, rfl⟩ (h78) rfl rfl (Nat.le_of_ble_eq_true rfl) (by first | decide | omega) (by decide) (by omega) (by omega) dX10_round_51 ?_
      refine hB bX10_round_54 _ _ _ _ _ _ _ kX10_round_54 ?_
      dsimp only [bX10_round_54, kx_wp, kx_step, kx_lI, kx_lL, kx_lA, kx_gl, kx_pI, kx_pL, kx_pR, kx_pA, kx_pV, kx_s1, kx_s2, kx_sl, kx_pre, kx_c2, kx_pl, kx_cmp, kx_oF, kx_eqN, kx_nil, kx_c1, kx_ft, kx_aI, kx_aL, kx_aR, kx_ln, Nat.reduceAdd, Option.toList, List.cons_append, List.nil_append, cf10_12, cf10_6, cf10_10, cf10_11, cf6_3, cf6_4]
      repeat (simp only [h64, h64s, h78, h78s, ej, ks_eq, ks_ss]; try dsimp only [kx_wp, kx_step, kx_lI, kx_lL, kx_lA, kx_gl, kx_pI, kx_pL, kx_pR, kx_pA, kx_pV, kx_s1, kx_s2, kx_sl, kx_pre, kx_c2, kx_pl, kx_cmp, kx_oF, kx_eqN, kx_nil, kx_c1, kx_ft, kx_aI, kx_aL, kx_aR, kx_ln, Nat.reduceAdd, Option.toList, List.cons_append, List.nil_append, cf10_12, cf10_6, cf10_10, cf10_11, cf6_3, cf6_4])
      repeat' apply And.intro
      all_goals try (first | with_reducible assumption | (with_reducible refine ck_nzI ?_; simp; done) | (with_reducible refine ck_nzL ?_; simp; done) | (with_reducible refine vp_in_nI ?_ ?_ <;> first | omega | decide) | (with_reducible refine Nat.le_of_ble_eq_true ?_; rfl) | omega | exact Or.inl trivial | exact Or.inr trivial | exact Or.inl rfl | exact Or.inr rfl)
      · intro zc55
        have ze55 := zc55
        refine hB bX10_round_66 _ _ _ _ _ _ _ kX10_round_66 ?_
        dsimp only [bX10_round_66, kx_wp, kx_step, kx_lI, kx_lL, kx_lA, kx_gl, kx_pI, kx_pL, kx_pR, kx_pA, kx_pV, kx_s1, kx_s2, kx_sl, kx_pre, kx_c2, kx_pl, kx_cmp, kx_oF, kx_eqN, kx_nil, kx_c1, kx_ft, kx_aI, kx_aL, kx_aR, kx_ln, Nat.reduceAdd, Option.toList, List.cons_append, List.nil_append, cf10_12, cf10_6, cf10_10, cf10_11, cf6_3, cf6_4]
        repeat (simp only [h64, h64s, h78, h78s, ej, ks_eq, ks_ss]; try dsimp only [kx_wp, kx_step, kx_lI, kx_lL, kx_lA, kx_gl, kx_pI, kx_pL, kx_pR, kx_pA, kx_pV, kx_s1, kx_s2, kx_sl, kx_pre, kx_c2, kx_pl, kx_cmp, kx_oF, kx_eqN, kx_nil, kx_c1, kx_ft, kx_aI, kx_aL, kx_aR, kx_ln, Nat.reduceAdd, Option.toList, List.cons_append, List.nil_append, cf10_12, cf10_6, cf10_10, cf10_11, cf6_3, cf6_4])
        repeat' apply And.intro
        all_goals try (first | with_reducible assumption | (with_reducible refine ck_nzI ?_; simp; done) | (with_reducible refine ck_nzL ?_; simp; done) | (with_reducible refine vp_in_nI ?_ ?_ <;> first | omega | decide) | (with_reducible refine Nat.le_of_ble_eq_true ?_; rfl) | omega | exact Or.inl trivial | exact Or.inr trivial | exact Or.inl rfl | exact Or.inr rfl)
        · intro zc68
          have ze68 := zc68
          refine hB bX10_round_81 _ _ _ _ _ _ _ kX10_round_81 ?_
          dsimp only [bX10_round_81, kx_wp, kx_step, kx_lI, kx_lL, kx_lA, kx_gl, kx_pI, kx_pL, kx_pR, kx_pA, kx_pV, kx_s1, kx_s2, kx_sl, kx_pre, kx_c2, kx_pl, kx_cmp, kx_oF, kx_eqN, kx_nil, kx_c1, kx_ft, kx_aI, kx_aL, kx_aR, kx_ln, Nat.reduceAdd, Option.toList, List.cons_append, List.nil_append, cf10_12, cf10_6, cf10_10, cf10_11, cf6_3, cf6_4]
          repeat (simp only [h64, h64s, h78, h78s, ej, ks_eq, ks_ss]; try dsimp only [kx_wp, kx_step, kx_lI, kx_lL, kx_lA, kx_gl, kx_pI, kx_pL, kx_pR, kx_pA, kx_pV, kx_s1, kx_s2, kx_sl, kx_pre, kx_c2, kx_pl, kx_cmp, kx_oF, kx_eqN, kx_nil, kx_c1, kx_ft, kx_aI, kx_aL, kx_aR, kx_ln, Nat.reduceAdd, Option.toList, List.cons_append, List.nil_append, cf10_12, cf10_6, cf10_10, cf10_11, cf6_3, cf6_4])
          repeat' apply And.intro
          all_goals try (first | with_reducible assumption | (with_reducible refine ck_nzI ?_; simp; done) | (with_reducible refine ck_nzL ?_; simp; done) | (with_reducible refine vp_in_nI ?_ ?_ <;> first | omega | decide) | (with_reducible refine Nat.le_of_ble_eq_true ?_; rfl) | omega | exact Or.inl trivial | exact Or.inr trivial | exact Or.inl rfl | exact Or.inr rfl)
          refine hC.1 278 _ _ _ _ _ _ _ 6 _ _ _ _ _ _ _ _ _ _ _ _ lX10_278 (ct_X6_bestAt l G (h78s _) (h80s _) (k := j) hj) ⟨by decide, rfl⟩ (h78s _) rfl rfl (Nat.le_of_ble_eq_true rfl) (by first | decide | omega) (by decide) (by omega) (by omega) dX10_round_88 ?_
          refine hB bX10_round_91 _ _ _ _ _ _ _ kX10_round_91 ?_
          dsimp only [bX10_round_91, kx_wp, kx_step, kx_lI, kx_lL, kx_lA, kx_gl, kx_pI, kx_pL, kx_pR, kx_pA, kx_pV, kx_s1, kx_s2, kx_sl, kx_pre, kx_c2, kx_pl, kx_cmp, kx_oF, kx_eqN, kx_nil, kx_c1, kx_ft, kx_aI, kx_aL, kx_aR, kx_ln, Nat.reduceAdd, Option.toList, List.cons_append, List.nil_append, cf10_12, cf10_6, cf10_10, cf10_11, cf6_3, cf6_4]
          repeat (simp only [h64, h64s, h78, h78s, ej, ks_eq, ks_ss]; try dsimp only [kx_wp, kx_step, kx_lI, kx_lL, kx_lA, kx_gl, kx_pI, kx_pL, kx_pR, kx_pA, kx_pV, kx_s1, kx_s2, kx_sl, kx_pre, kx_c2, kx_pl, kx_cmp, kx_oF, kx_eqN, kx_nil, kx_c1, kx_ft, kx_aI, kx_aL, kx_aR, kx_ln, Nat.reduceAdd, Option.toList, List.cons_append, List.nil_append, cf10_12, cf10_6, cf10_10, cf10_11, cf6_3, cf6_4])
          all_goals (repeat' apply And.intro)
          all_goals ((try clear hB hC); first | exact True.intro | with_reducible rfl | with_reducible assumption | (with_reducible refine vp_in_nI ?_ ?_ <;> first | omega | decide) | exact Nat.le_of_ble_eq_true rfl | (with_reducible refine ck_nzI ?_; simp; done) | (with_reducible refine ck_nzL ?_; simp; done) | (simp only [pk_us, pk_uLs, zc16, ze16, zc23, ze23, ze55, ze68, ↓reduceIte, not_true_eq_false, not_false_eq_true]; done) | (simp only [zc16, ze16, zc23, ze23, ze55, ze68, ↓reduceIte, not_true_eq_false, not_false_eq_true]; with_reducible rfl) | omega | skip)
        · intro zc68
          first | exact absurd rfl zc68 | exact absurd zc68 (by decide) | exact absurd (by decide) zc68 | (exfalso; first | exact absurd zc16 (by decide) | exact absurd hw (Int32.not_le.mpr zc23) | exact zc55 rfl | exact absurd zc55 (by decide) | exact zc68 rfl | exact absurd zc68 (by decide) | exact absurd ((nI_ltI (a := j + 2) (b := 0) (by omega) (by omega)).mp zc16) (by omega) | exact absurd ((nI_eq (a := j + 2) (b := 0) (by omega) (by omega)).mp (Decidable.not_not.mp zc55)) (by omega) | exact absurd ((nI_eq (a := j + 2) (b := 1) (by omega) (by omega)).mp (Decidable.not_not.mp zc68)) (by omega)) | (exfalso; simp_all; done)
      · intro zc55
        first | exact absurd rfl zc55 | exact absurd zc55 (by decide) | exact absurd (by decide) zc55 | (exfalso; first | exact absurd zc16 (by decide) | exact absurd hw (Int32.not_le.mpr zc23) | exact zc55 rfl | exact absurd zc55 (by decide) | exact zc68 rfl | exact absurd zc68 (by decide) | exact absurd ((nI_ltI (a := j + 2) (b := 0) (by omega) (by omega)).mp zc16) (by omega) | exact absurd ((nI_eq (a := j + 2) (b := 0) (by omega) (by omega)).mp (Decidable.not_not.mp zc55)) (by omega) | exact absurd ((nI_eq (a := j + 2) (b := 1) (by omega) (by omega)).mp (Decidable.not_not.mp zc68)) (by omega)) | (exfalso; simp_all; done)

set_option maxRecDepth 100000 in
set_option maxHeartbeats 4000000 in
theorem ct_X10_round_b (l : Launch) (G : kx_G) (hst : l.stackTraces = false) {P : kx_P} {sz : Nat} {sv : Value} {K : Nat → Int32} (h64 : P 64 = kO 10 (kf (cr10 sv) K)) {b w : Int32} (hac : cx_ac b (K 7) 6 = 0)  : kx_X l G sX10_round 7 [.ref 64, .int (b), .int (w)] P sz "java/lang/IllegalArgumentException" := by
  refine kx_mkx hst kx_tab kxLok_X10 [some (.ref 64), some (.int (b)), some (.int (w)), none] ⟨by decide, rfl, by decide⟩ rfl rfl (fun g hB hC hX hT => ?_)
  refine hB bX10_round_0 _ _ _ _ _ _ _ kX10_round_0 ?_
  dsimp only [bX10_round_0, kx_wp, kx_step, kx_lI, kx_lL, kx_lA, kx_gl, kx_pI, kx_pL, kx_pR, kx_pA, kx_pV, kx_s1, kx_s2, kx_sl, kx_pre, kx_c2, kx_pl, kx_cmp, kx_oF, kx_eqN, kx_nil, kx_c1, kx_ft, kx_aI, kx_aL, kx_aR, kx_ln, Nat.reduceAdd, Option.toList, List.cons_append, List.nil_append, cf10_12, cf10_6, cf10_10, cf10_11, cf6_3, cf6_4]
  repeat (simp only [h64, hac, ks_eq, ks_ss]; try dsimp only [kx_wp, kx_step, kx_lI, kx_lL, kx_lA, kx_gl, kx_pI, kx_pL, kx_pR, kx_pA, kx_pV, kx_s1, kx_s2, kx_sl, kx_pre, kx_c2, kx_pl, kx_cmp, kx_oF, kx_eqN, kx_nil, kx_c1, kx_ft, kx_aI, kx_aL, kx_aR, kx_ln, Nat.reduceAdd, Option.toList, List.cons_append, List.nil_append, cf10_12, cf10_6, cf10_10, cf10_11, cf6_3, cf6_4])
  repeat' apply And.intro
  all_goals try (first | with_reducible assumption | (with_reducible refine ck_nzI ?_; simp; done) | (with_reducible refine ck_nzL ?_; simp; done) | (with_reducible refine vp_in_nI ?_ ?_ <;> first | omega | decide) | (with_reducible refine Nat.le_of_ble_eq_true ?_; rfl) | omega | exact Or.inl trivial | exact Or.inr trivial | exact Or.inl rfl | exact Or.inr rfl)
  refine hC.1 261 _ _ _ _ _ _ _ 10 _ _ _ _ _ _ _ _ _ _ _ _ lX10_261 (ct_X10_areClocks l G h64) ⟨by decide, rfl⟩ (h64) rfl rfl (Nat.le_of_ble_eq_true rfl) (by first | decide | omega) (by decide) (by omega) (by omega) dX10_round_4 ?_
  rw [hac]
  exact hX.2 95 _ _ _ _ _ _ _ _ lX10_95 (ct_X10_need_x l G hst) rfl rfl (Nat.le_of_ble_eq_true rfl) (by first | decide | omega) (by decide) dX10_round_7

set_option maxRecDepth 100000 in
set_option maxHeartbeats 4000000 in
theorem ct_X10_round_c (l : Launch) (G : kx_G) (hst : l.stackTraces = false) {P : kx_P} {sz : Nat} {sv : Value} {K : Nat → Int32} (h64 : P 64 = kO 10 (kf (cr10 sv) K)) {b w : Int32} (hac : cx_ac b (K 7) 6 = 1) (hw : ¬ (0 ≤ w ∧ w ≤ 1 + cj_bc b))  : kx_X l G sX10_round 7 [.ref 64, .int (b), .int (w)] P sz "java/lang/IllegalArgumentException" := by
  refine kx_mkx hst kx_tab kxLok_X10 [some (.ref 64), some (.int (b)), some (.int (w)), none] ⟨by decide, rfl, by decide⟩ rfl rfl (fun g hB hC hX hT => ?_)
  refine hB bX10_round_0 _ _ _ _ _ _ _ kX10_round_0 ?_
  dsimp only [bX10_round_0, kx_wp, kx_step, kx_lI, kx_lL, kx_lA, kx_gl, kx_pI, kx_pL, kx_pR, kx_pA, kx_pV, kx_s1, kx_s2, kx_sl, kx_pre, kx_c2, kx_pl, kx_cmp, kx_oF, kx_eqN, kx_nil, kx_c1, kx_ft, kx_aI, kx_aL, kx_aR, kx_ln, Nat.reduceAdd, Option.toList, List.cons_append, List.nil_append, cf10_12, cf10_6, cf10_10, cf10_11, cf6_3, cf6_4]
  repeat (simp only [h64, hac, ks_eq, ks_ss]; try dsimp only [kx_wp, kx_step, kx_lI, kx_lL, kx_lA, kx_gl, kx_pI, kx_pL, kx_pR, kx_pA, kx_pV, kx_s1, kx_s2, kx_sl, kx_pre, kx_c2, kx_pl, kx_cmp, kx_oF, kx_eqN, kx_nil, kx_c1, kx_ft, kx_aI, kx_aL, kx_aR, kx_ln, Nat.reduceAdd, Option.toList, List.cons_append, List.nil_append, cf10_12, cf10_6, cf10_10, cf10_11, cf6_3, cf6_4])
  repeat' apply And.intro
  all_goals try (first | with_reducible assumption | (with_reducible refine ck_nzI ?_; simp; done) | (with_reducible refine ck_nzL ?_; simp; done) | (with_reducible refine vp_in_nI ?_ ?_ <;> first | omega | decide) | (with_reducible refine Nat.le_of_ble_eq_true ?_; rfl) | omega | exact Or.inl trivial | exact Or.inr trivial | exact Or.inl rfl | exact Or.inr rfl)
  refine hC.1 261 _ _ _ _ _ _ _ 10 _ _ _ _ _ _ _ _ _ _ _ _ lX10_261 (ct_X10_areClocks l G h64) ⟨by decide, rfl⟩ (h64) rfl rfl (Nat.le_of_ble_eq_true rfl) (by first | decide | omega) (by decide) (by omega) (by omega) dX10_round_4 ?_
  rw [hac]
  refine hC.2.1 95 _ _ _ _ _ _ _ _ _ _ _ _ _ _ _ _ _ lX10_95 (ct_X10_need l G (b := 1) (by decide)) rfl rfl (Nat.le_of_ble_eq_true rfl) (by first | decide | omega) (by decide) (by omega) (by omega) dX10_round_7 ?_
  refine hB bX10_round_10 _ _ _ _ _ _ _ kX10_round_10 ?_
  dsimp only [bX10_round_10, kx_wp, kx_step, kx_lI, kx_lL, kx_lA, kx_gl, kx_pI, kx_pL, kx_pR, kx_pA, kx_pV, kx_s1, kx_s2, kx_sl, kx_pre, kx_c2, kx_pl, kx_cmp, kx_oF, kx_eqN, kx_nil, kx_c1, kx_ft, kx_aI, kx_aL, kx_aR, kx_ln, Nat.reduceAdd, Option.toList, List.cons_append, List.nil_append, cf10_12, cf10_6, cf10_10, cf10_11, cf6_3, cf6_4]
  repeat (simp only [h64, hac, ks_eq, ks_ss]; try dsimp only [kx_wp, kx_step, kx_lI, kx_lL, kx_lA, kx_gl, kx_pI, kx_pL, kx_pR, kx_pA, kx_pV, kx_s1, kx_s2, kx_sl, kx_pre, kx_c2, kx_pl, kx_cmp, kx_oF, kx_eqN, kx_nil, kx_c1, kx_ft, kx_aI, kx_aL, kx_aR, kx_ln, Nat.reduceAdd, Option.toList, List.cons_append, List.nil_append, cf10_12, cf10_6, cf10_10, cf10_11, cf6_3, cf6_4])
  repeat' apply And.intro
  all_goals try (first | with_reducible assumption | (with_reducible refine ck_nzI ?_; simp; done) | (with_reducible refine ck_nzL ?_; simp; done) | (with_reducible refine vp_in_nI ?_ ?_ <;> first | omega | decide) | (with_reducible refine Nat.le_of_ble_eq_true ?_; rfl) | omega | exact Or.inl trivial | exact Or.inr trivial | exact Or.inl rfl | exact Or.inr rfl)
  refine hC.2.1 264 _ _ _ _ _ _ _ _ _ _ _ _ _ _ _ _ _ lX10_264 (ct_J6_bitCount_0f7a4 l G) rfl rfl (Nat.le_of_ble_eq_true rfl) (by first | decide | omega) (by decide) (by omega) (by omega) dX10_round_11 ?_
  refine hB bX10_round_14 _ _ _ _ _ _ _ kX10_round_14 ?_
  dsimp only [bX10_round_14, kx_wp, kx_step, kx_lI, kx_lL, kx_lA, kx_gl, kx_pI, kx_pL, kx_pR, kx_pA, kx_pV, kx_s1, kx_s2, kx_sl, kx_pre, kx_c2, kx_pl, kx_cmp, kx_oF, kx_eqN, kx_nil, kx_c1, kx_ft, kx_aI, kx_aL, kx_aR, kx_ln, Nat.reduceAdd, Option.toList, List.cons_append, List.nil_append, cf10_12, cf10_6, cf10_10, cf10_11, cf6_3, cf6_4]
  repeat (simp only [h64, hac, ks_eq, ks_ss]; try dsimp only [kx_wp, kx_step, kx_lI, kx_lL, kx_lA, kx_gl, kx_pI, kx_pL, kx_pR, kx_pA, kx_pV, kx_s1, kx_s2, kx_sl, kx_pre, kx_c2, kx_pl, kx_cmp, kx_oF, kx_eqN, kx_nil, kx_c1, kx_ft, kx_aI, kx_aL, kx_aR, kx_ln, Nat.reduceAdd, Option.toList, List.cons_append, List.nil_append, cf10_12, cf10_6, cf10_10, cf10_11, cf6_3, cf6_4])
  repeat' apply And.intro
  all_goals try (first | with_reducible assumption | (with_reducible refine ck_nzI ?_; simp; done) | (with_reducible refine ck_nzL ?_; simp; done) | (with_reducible refine vp_in_nI ?_ ?_ <;> first | omega | decide) | (with_reducible refine Nat.le_of_ble_eq_true ?_; rfl) | omega | exact Or.inl trivial | exact Or.inr trivial | exact Or.inl rfl | exact Or.inr rfl)
  · intro zc16
    with_reducible first | have ze16 := Int32.not_le.mpr zc16 | have ze16 := zc16
    refine hB bX10_round_30 _ _ _ _ _ _ _ kX10_round_30 ?_
    dsimp only [bX10_round_30, kx_wp, kx_step, kx_lI, kx_lL, kx_lA, kx_gl, kx_pI, kx_pL, kx_pR, kx_pA, kx_pV, kx_s1, kx_s2, kx_sl, kx_pre, kx_c2, kx_pl, kx_cmp, kx_oF, kx_eqN, kx_nil, kx_c1, kx_ft, kx_aI, kx_aL, kx_aR, kx_ln, Nat.reduceAdd, Option.toList, List.cons_append, List.nil_append, cf10_12, cf10_6, cf10_10, cf10_11, cf6_3, cf6_4]
    repeat (simp only [h64, hac, ks_eq, ks_ss]; try dsimp only [kx_wp, kx_step, kx_lI, kx_lL, kx_lA, kx_gl, kx_pI, kx_pL, kx_pR, kx_pA, kx_pV, kx_s1, kx_s2, kx_sl, kx_pre, kx_c2, kx_pl, kx_cmp, kx_oF, kx_eqN, kx_nil, kx_c1, kx_ft, kx_aI, kx_aL, kx_aR, kx_ln, Nat.reduceAdd, Option.toList, List.cons_append, List.nil_append, cf10_12, cf10_6, cf10_10, cf10_11, cf6_3, cf6_4])
    repeat' apply And.intro
    all_goals try (first | with_reducible assumption | (with_reducible refine ck_nzI ?_; simp; done) | (with_reducible refine ck_nzL ?_; simp; done) | (with_reducible refine vp_in_nI ?_ ?_ <;> first | omega | decide) | (with_reducible refine Nat.le_of_ble_eq_true ?_; rfl) | omega | exact Or.inl trivial | exact Or.inr trivial | exact Or.inl rfl | exact Or.inr rfl)
    exact hX.2 95 _ _ _ _ _ _ _ _ lX10_95 (ct_X10_need_x l G hst) rfl rfl (Nat.le_of_ble_eq_true rfl) (by first | decide | omega) (by decide) dX10_round_31
  · intro zc16
    with_reducible first | have ze16 := Int32.not_lt.mp zc16 | have ze16 := zc16
    refine hB bX10_round_19 _ _ _ _ _ _ _ kX10_round_19 ?_
    dsimp only [bX10_round_19, kx_wp, kx_step, kx_lI, kx_lL, kx_lA, kx_gl, kx_pI, kx_pL, kx_pR, kx_pA, kx_pV, kx_s1, kx_s2, kx_sl, kx_pre, kx_c2, kx_pl, kx_cmp, kx_oF, kx_eqN, kx_nil, kx_c1, kx_ft, kx_aI, kx_aL, kx_aR, kx_ln, Nat.reduceAdd, Option.toList, List.cons_append, List.nil_append, cf10_12, cf10_6, cf10_10, cf10_11, cf6_3, cf6_4]
    repeat (simp only [h64, hac, ks_eq, ks_ss]; try dsimp only [kx_wp, kx_step, kx_lI, kx_lL, kx_lA, kx_gl, kx_pI, kx_pL, kx_pR, kx_pA, kx_pV, kx_s1, kx_s2, kx_sl, kx_pre, kx_c2, kx_pl, kx_cmp, kx_oF, kx_eqN, kx_nil, kx_c1, kx_ft, kx_aI, kx_aL, kx_aR, kx_ln, Nat.reduceAdd, Option.toList, List.cons_append, List.nil_append, cf10_12, cf10_6, cf10_10, cf10_11, cf6_3, cf6_4])
    repeat' apply And.intro
    all_goals try (first | with_reducible assumption | (with_reducible refine ck_nzI ?_; simp; done) | (with_reducible refine ck_nzL ?_; simp; done) | (with_reducible refine vp_in_nI ?_ ?_ <;> first | omega | decide) | (with_reducible refine Nat.le_of_ble_eq_true ?_; rfl) | omega | exact Or.inl trivial | exact Or.inr trivial | exact Or.inl rfl | exact Or.inr rfl)
    · intro zc23
      with_reducible first | have ze23 := Int32.not_le.mpr zc23 | have ze23 := zc23
      refine hB bX10_round_30 _ _ _ _ _ _ _ kX10_round_30 ?_
      dsimp only [bX10_round_30, kx_wp, kx_step, kx_lI, kx_lL, kx_lA, kx_gl, kx_pI, kx_pL, kx_pR, kx_pA, kx_pV, kx_s1, kx_s2, kx_sl, kx_pre, kx_c2, kx_pl, kx_cmp, kx_oF, kx_eqN, kx_nil, kx_c1, kx_ft, kx_aI, kx_aL, kx_aR, kx_ln, Nat.reduceAdd, Option.toList, List.cons_append, List.nil_append, cf10_12, cf10_6, cf10_10, cf10_11, cf6_3, cf6_4]
      repeat (simp only [h64, hac, ks_eq, ks_ss]; try dsimp only [kx_wp, kx_step, kx_lI, kx_lL, kx_lA, kx_gl, kx_pI, kx_pL, kx_pR, kx_pA, kx_pV, kx_s1, kx_s2, kx_sl, kx_pre, kx_c2, kx_pl, kx_cmp, kx_oF, kx_eqN, kx_nil, kx_c1, kx_ft, kx_aI, kx_aL, kx_aR, kx_ln, Nat.reduceAdd, Option.toList, List.cons_append, List.nil_append, cf10_12, cf10_6, cf10_10, cf10_11, cf6_3, cf6_4])
      repeat' apply And.intro
      all_goals try (first | with_reducible assumption | (with_reducible refine ck_nzI ?_; simp; done) | (with_reducible refine ck_nzL ?_; simp; done) | (with_reducible refine vp_in_nI ?_ ?_ <;> first | omega | decide) | (with_reducible refine Nat.le_of_ble_eq_true ?_; rfl) | omega | exact Or.inl trivial | exact Or.inr trivial | exact Or.inl rfl | exact Or.inr rfl)
      exact hX.2 95 _ _ _ _ _ _ _ _ lX10_95 (ct_X10_need_x l G hst) rfl rfl (Nat.le_of_ble_eq_true rfl) (by first | decide | omega) (by decide) dX10_round_31
    · intro zc23
      with_reducible first | have ze23 := Int32.not_lt.mp zc23 | have ze23 := zc23
      exact absurd ⟨ze16, ze23⟩ hw


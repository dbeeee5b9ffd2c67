def cx_tk (CC VV : Nat → Nat → Int32) (q1 q2 q3 q4 : Nat → Int32) (x y mi : Int32) (sd : Nat) : Int32 := if (cx_li CC VV q1 q2 q3 q4 x y mi sd).1 = 0 then 0 else ck_us (cx_li CC VV q1 q2 q3 q4 x y mi sd).1
/-- witnesses, the latest first -/
def cx_wi (q2 : Nat → Int32) (tk : Int32 → Int32) (hr : Int32) (sd : Nat) : Nat → Nat → Int32 → Int32 → Int32
  | 0, _, _, _ => -1
  | n + 1, i, ah, la => if ah < 0 then -1 else if q2 ((sd - 1 - i) % 200) / 60 = la then cx_wi q2 tk hr sd n (i + 1) ah la
    else if tk (q2 ((sd - 1 - i) % 200) / 60) = hr then (if ah = 0 then q2 ((sd - 1 - i) % 200) / 60 else cx_wi q2 tk hr sd n (i + 1) (ah + (-1)) (q2 ((sd - 1 - i) % 200) / 60))
    else cx_wi q2 tk hr sd n (i + 1) ah (q2 ((sd - 1 - i) % 200) / 60)
def bX7_witnessOf_0 : List kx_O := [(.iload 5, 5, 0, 0, .null), (.istore 6, 6, 0, 0, .null), (.iconst (-1), 0, 0, 0, .int (-1)), (.istore 7, 7, 0, 0, .null), (.iconst 0, 0, 0, 0, .int 0), (.istore 8, 8, 0, 0, .null)]
theorem kX7_witnessOf_0 : kx_oks kxL_X7 false cX7_witnessOf 0 bX7_witnessOf_0 = true := by decide +kernel
def bX7_witnessOf_10 : List kx_O := [(.iload 6, 6, 0, 0, .null), (.ifCond .lt 74, 86, 0, 0, .null)]
theorem kX7_witnessOf_10 : kx_oks kxL_X7 false cX7_witnessOf 10 bX7_witnessOf_10 = true := by decide +kernel
def bX7_witnessOf_15 : List kx_O := [(.iload 8, 8, 0, 0, .null), (.aload_n 0, 0, 0, 0, .null)]
theorem kX7_witnessOf_15 : kx_oks kxL_X7 false cX7_witnessOf 15 bX7_witnessOf_15 = true := by decide +kernel
def bX7_witnessOf_21 : List kx_O := [(.if_icmp .ge 65, 86, 0, 0, .null)]
theorem kX7_witnessOf_21 : kx_oks kxL_X7 false cX7_witnessOf 21 bX7_witnessOf_21 = true := by decide +kernel
def bX7_witnessOf_24 : List kx_O := [(.aload_n 0, 0, 0, 0, .null), (.getfield 15, 7, 1, 0, .null), (.aload_n 0, 0, 0, 0, .null), (.iload 8, 8, 0, 0, .null)]
theorem kX7_witnessOf_24 : kx_oks kxL_X7 false cX7_witnessOf 24 bX7_witnessOf_24 = true := by decide +kernel
def bX7_witnessOf_34 : List kx_O := [(.iaload, 0, 0, 0, .null), (.bipush 60, 0, 0, 0, .int 60), (.idiv, 0, 0, 0, .null), (.istore 9, 9, 0, 0, .null), (.iload 9, 9, 0, 0, .null), (.iload 7, 7, 0, 0, .null), (.if_icmp .eq 36, 80, 0, 0, .null)]
theorem kX7_witnessOf_34 : kx_oks kxL_X7 false cX7_witnessOf 34 bX7_witnessOf_34 = true := by decide +kernel
def bX7_witnessOf_47 : List kx_O := [(.iload 9, 9, 0, 0, .null), (.istore 7, 7, 0, 0, .null), (.aload_n 0, 0, 0, 0, .null), (.aload_n 1, 1, 0, 0, .null), (.iload_n 2, 2, 0, 0, .null), (.iload_n 3, 3, 0, 0, .null), (.iload 9, 9, 0, 0, .null)]
theorem kX7_witnessOf_47 : kx_oks kxL_X7 false cX7_witnessOf 47 bX7_witnessOf_47 = true := by decide +kernel
def bX7_witnessOf_60 : List kx_O := [(.aload_n 0, 0, 0, 0, .null)]
theorem kX7_witnessOf_60 : kx_oks kxL_X7 false cX7_witnessOf 60 bX7_witnessOf_60 = true := by decide +kernel
def bX7_witnessOf_64 : List kx_O := [(.iload 4, 4, 0, 0, .null), (.if_icmp .ne 14, 80, 0, 0, .null)]
theorem kX7_witnessOf_64 : kx_oks kxL_X7 false cX7_witnessOf 64 bX7_witnessOf_64 = true := by decide +kernel
def bX7_witnessOf_69 : List kx_O := [(.iload 6, 6, 0, 0, .null), (.ifCond .ne 6, 77, 0, 0, .null)]
theorem kX7_witnessOf_69 : kx_oks kxL_X7 false cX7_witnessOf 69 bX7_witnessOf_69 = true := by decide +kernel
def bX7_witnessOf_74 : List kx_O := [(.iload 9, 9, 0, 0, .null), (.ireturn, 0, 0, 0, .null)]
theorem kX7_witnessOf_74 : kx_oks kxL_X7 false cX7_witnessOf 74 bX7_witnessOf_74 = true := by decide +kernel
def bX7_witnessOf_77 : List kx_O := [(.iinc 6 (-1), 6, 0, 0, .int (-1))]
theorem kX7_witnessOf_77 : kx_oks kxL_X7 false cX7_witnessOf 77 bX7_witnessOf_77 = true := by decide +kernel
def bX7_witnessOf_80 : List kx_O := [(.iinc 8 1, 8, 0, 0, .int 1), (.goto (-73), 10, 0, 0, .null)]
theorem kX7_witnessOf_80 : kx_oks kxL_X7 false cX7_witnessOf 80 bX7_witnessOf_80 = true := by decide +kernel
def bX7_witnessOf_86 : List kx_O := [(.iconst (-1), 0, 0, 0, .int (-1)), (.ireturn, 0, 0, 0, .null)]
theorem kX7_witnessOf_86 : kx_oks kxL_X7 false cX7_witnessOf 86 bX7_witnessOf_86 = true := by decide +kernel
theorem dX7_witnessOf_18 : decode cX7_witnessOf 18 = .ok (.invokevirtual 49, 3) := by decide +kernel
theorem dX7_witnessOf_31 : decode cX7_witnessOf 31 = .ok (.invokevirtual 53, 3) := by decide +kernel
theorem dX7_witnessOf_57 : decode cX7_witnessOf 57 = .ok (.invokevirtual 84, 3) := by decide +kernel
theorem dX7_witnessOf_61 : decode cX7_witnessOf 61 = .ok (.invokevirtual 88, 3) := by decide +kernel
set_option maxRecDepth 100000 in
set_option maxHeartbeats 4000000 in
theorem ct_X7_witnessOf (l : Launch) (G : kx_G) {P : kx_P} {sz : Nat} {F X Y q1 q2 q3 q4 : Nat → Int32} (hS : cx_SR P q1 q2 q3 q4) {sd cl : Nat} (h4 : F 4 = nI sd) (hsd : sd < 2 ^ 29) (hcl : cl ≤ 8) {cn wn : Nat → Nat} {DD : Nat → Int64} {HH : Nat → Value} {CC VV : Nat → Nat → Int32} (hCS : cx_CS P cl cn wn DD HH CC VV) (hso : cx_SO q1 q2 q3 q4 CC sd cl) {x y : Nat} (hx : x ≤ 99) (hy : y ≤ 99) {hr kk : Int32}  : kx_Mn l G sX7_witnessOf 4 0 0 [.ref 71, .ref 69, .int (nI x), .int (nI y), .int (hr), .int (kk)] (sW P (F) (X) (Y)) sz (fun r P2 s2 => r = some (.int (cx_wi q2 (fun t => cx_tk CC VV q1 q2 q3 q4 (nI x) (nI y) t sd) hr sd (min sd 200) 0 kk (-1))) ∧ (∃ F2 X2 Y2, P2 = sW P F2 X2 Y2 ∧ F2 4 = nI sd) ∧ s2 = sz) := by
  have hS0 := hS
  have hC0 := hCS
  obtain ⟨s1, s2, s3, s4⟩ := hS
  obtain ⟨h69, hcs⟩ := hCS
  have t1 : ∀ F X Y, sW P F X Y 72 = kI 0 200 q1 := fun _ _ _ => (sW_o (by decide) (by decide) (by decide)).trans s1
  have t2 : ∀ F X Y, sW P F X Y 73 = kI 0 200 q2 := fun _ _ _ => (sW_o (by decide) (by decide) (by decide)).trans s2
  have t3 : ∀ F X Y, sW P F X Y 74 = kI 0 200 q3 := fun _ _ _ => (sW_o (by decide) (by decide) (by decide)).trans s3
  have t4 : ∀ F X Y, sW P F X Y 75 = kI 0 200 q4 := fun _ _ _ => (sW_o (by decide) (by decide) (by decide)).trans s4
  have t5 : ∀ F X Y, sW P F X Y 69 = kR 8 (fun i => if i < cl then some (cn i) else none) := fun _ _ _ => (sW_o (by decide) (by decide) (by decide)).trans h69
  refine kx_mkn kx_tab kxLok_X7 (ini := false) [some (.ref 71), some (.ref 69), some (.int (nI x)), some (.int (nI y)), some (.int (hr)), some (.int (kk)), none, none, none, none] ⟨by decide, rfl, by decide, by decide⟩ (fun _ _ _ h => ⟨_, h.1⟩) rfl rfl (fun g hB hC hN => ?_)
  have loop10 : ∀ (n9 k : Nat) (ah la : Int32) (F X Y : Nat → Int32) (x9 : Option Value), k + n9 = min sd 200 → F 4 = nI sd → cx_wi q2 (fun t => cx_tk CC VV q1 q2 q3 q4 (nI x) (nI y) t sd) hr sd n9 k ah la = (cx_wi q2 (fun t => cx_tk CC VV q1 q2 q3 q4 (nI x) (nI y) t sd) hr sd (min sd 200) 0 kk (-1)) → g 10 [some (.ref 71), some (.ref 69), some (.int (nI x)), some (.int (nI y)), some (.int (hr)), some (.int (kk)), some (.int (ah)), some (.int (la)), some (.int (nI k)), x9] [] (sW P F X Y) sz 0 0 := by
    intro n9
    induction n9 with
    | zero =>
      intro k ah la F X Y x9 hk hF he
      obtain rfl : k = min sd 200 := by omega
      rw [cx_wi] at he
      refine hB bX7_witnessOf_10 _ _ _ _ _ _ _ kX7_witnessOf_10 ?_
      dsimp only [bX7_witnessOf_10, kx_wp, kx_step, kx_lI, kx_lL, kx_lA, kx_gl, kx_pI, kx_pL, kx_pR, kx_pA, kx_pV, kx_s1, kx_s2, kx_sl, kx_pre, kx_c2, kx_pl, kx_cmp, kx_oF, kx_eqN, kx_nil, kx_c1, kx_ft, kx_aI, kx_aL, kx_aR, kx_ln, Nat.reduceAdd, Option.toList, List.cons_append, List.nil_append, cf7_1]
      repeat (simp only [sW_71, sW_76, sW_77, sW_p71, sW_p76, sW_p77, nI_1, t1, t2, t3, t4, t5, pk_us, pk_un, ne_eq, Nat.reduceEqDiff, not_false_eq_true, ks_eq, ks_ss]; try dsimp only [kx_wp, kx_step, kx_lI, kx_lL, kx_lA, kx_gl, kx_pI, kx_pL, kx_pR, kx_pA, kx_pV, kx_s1, kx_s2, kx_sl, kx_pre, kx_c2, kx_pl, kx_cmp, kx_oF, kx_eqN, kx_nil, kx_c1, kx_ft, kx_aI, kx_aL, kx_aR, kx_ln, Nat.reduceAdd, Option.toList, List.cons_append, List.nil_append, cf7_1])
      repeat' apply And.intro
      all_goals try (first | with_reducible assumption | (with_reducible refine ck_nzI ?_; simp; done) | (with_reducible refine ck_nzL ?_; simp; done) | (with_reducible refine vp_in_nI ?_ ?_ <;> first | omega | decide) | (with_reducible refine Nat.le_of_ble_eq_true ?_; rfl) | omega | exact Or.inl trivial | exact Or.inr trivial | exact Or.inl rfl | exact Or.inr rfl)
      · intro zc12
        with_reducible first | have ze12 := Int32.not_le.mpr zc12 | have ze12 := zc12
        refine hB bX7_witnessOf_86 _ _ _ _ _ _ _ kX7_witnessOf_86 ?_
        dsimp only [bX7_witnessOf_86, kx_wp, kx_step, kx_lI, kx_lL, kx_lA, kx_gl, kx_pI, kx_pL, kx_pR, kx_pA, kx_pV, kx_s1, kx_s2, kx_sl, kx_pre, kx_c2, kx_pl, kx_cmp, kx_oF, kx_eqN, kx_nil, kx_c1, kx_ft, kx_aI, kx_aL, kx_aR, kx_ln, Nat.reduceAdd, Option.toList, List.cons_append, List.nil_append, cf7_1]
        repeat (simp only [sW_71, sW_76, sW_77, sW_p71, sW_p76, sW_p77, nI_1, t1, t2, t3, t4, t5, pk_us, pk_un, ne_eq, Nat.reduceEqDiff, not_false_eq_true, ks_eq, ks_ss]; try dsimp only [kx_wp, kx_step, kx_lI, kx_lL, kx_lA, kx_gl, kx_pI, kx_pL, kx_pR, kx_pA, kx_pV, kx_s1, kx_s2, kx_sl, kx_pre, kx_c2, kx_pl, kx_cmp, kx_oF, kx_eqN, kx_nil, kx_c1, kx_ft, kx_aI, kx_aL, kx_aR, kx_ln, Nat.reduceAdd, Option.toList, List.cons_append, List.nil_append, cf7_1])
        all_goals (repeat' apply And.intro)
        all_goals ((try clear hB hC); first | exact True.intro | exact ⟨_, _, _, rfl, hF⟩ | (simp only [zc12, ze12, ↓reduceIte] at he; rw [← he]; done) | (rw [← he]; done) | exact ⟨_, _, _, rfl, rfl⟩ | trace_state)
      · intro zc12
        with_reducible first | have ze12 := Int32.not_lt.mp zc12 | have ze12 := zc12
        refine hB bX7_witnessOf_15 _ _ _ _ _ _ _ kX7_witnessOf_15 ?_
        dsimp only [bX7_witnessOf_15, kx_wp, kx_step, kx_lI, kx_lL, kx_lA, kx_gl, kx_pI, kx_pL, kx_pR, kx_pA, kx_pV, kx_s1, kx_s2, kx_sl, kx_pre, kx_c2, kx_pl, kx_cmp, kx_oF, kx_eqN, kx_nil, kx_c1, kx_ft, kx_aI, kx_aL, kx_aR, kx_ln, Nat.reduceAdd, Option.toList, List.cons_append, List.nil_append, cf7_1]
        repeat (simp only [sW_71, sW_76, sW_77, sW_p71, sW_p76, sW_p77, nI_1, t1, t2, t3, t4, t5, pk_us, pk_un, ne_eq, Nat.reduceEqDiff, not_false_eq_true, ks_eq, ks_ss]; try dsimp only [kx_wp, kx_step, kx_lI, kx_lL, kx_lA, kx_gl, kx_pI, kx_pL, kx_pR, kx_pA, kx_pV, kx_s1, kx_s2, kx_sl, kx_pre, kx_c2, kx_pl, kx_cmp, kx_oF, kx_eqN, kx_nil, kx_c1, kx_ft, kx_aI, kx_aL, kx_aR, kx_ln, Nat.reduceAdd, Option.toList, List.cons_append, List.nil_append, cf7_1])
        repeat' apply And.intro
        all_goals try (first | with_reducible assumption | (with_reducible refine ck_nzI ?_; simp; done) | (with_reducible refine ck_nzL ?_; simp; done) | (with_reducible refine vp_in_nI ?_ ?_ <;> first | omega | decide) | (with_reducible refine Nat.le_of_ble_eq_true ?_; rfl) | omega | exact Or.inl trivial | exact Or.inr trivial | exact Or.inl rfl | exact Or.inr rfl)
        refine hC.1 49 _ _ _ _ _ _ _ 7 _ _ _ _ _ _ _ _ _ _ _ _ lX7_49 (ct_X7_keptNow l G sW_71 hF hsd) ⟨by decide, rfl⟩ (sW_71) rfl rfl (Nat.le_of_ble_eq_true rfl) (by decide) (by decide) (by omega) (by omega) dX7_witnessOf_18 ?_
        refine hB bX7_witnessOf_21 _ _ _ _ _ _ _ kX7_witnessOf_21 ?_
        dsimp only [bX7_witnessOf_21, kx_wp, kx_step, kx_lI, kx_lL, kx_lA, kx_gl, kx_pI, kx_pL, kx_pR, kx_pA, kx_pV, kx_s1, kx_s2, kx_sl, kx_pre, kx_c2, kx_pl, kx_cmp, kx_oF, kx_eqN, kx_nil, kx_c1, kx_ft, kx_aI, kx_aL, kx_aR, kx_ln, Nat.reduceAdd, Option.toList, List.cons_append, List.nil_append, cf7_1]
        repeat (simp only [sW_71, sW_76, sW_77, sW_p71, sW_p76, sW_p77, nI_1, t1, t2, t3, t4, t5, pk_us, pk_un, ne_eq, Nat.reduceEqDiff, not_false_eq_true, ks_eq, ks_ss]; try dsimp only [kx_wp, kx_step, kx_lI, kx_lL, kx_lA, kx_gl, kx_pI, kx_pL, kx_pR, kx_pA, kx_pV, kx_s1, kx_s2, kx_sl, kx_pre, kx_c2, kx_pl, kx_cmp, kx_oF, kx_eqN, kx_nil, kx_c1, kx_ft, kx_aI, kx_aL, kx_aR, kx_ln, Nat.reduceAdd, Option.toList, List.cons_append, List.nil_append, cf7_1])
        repeat' apply And.intro
        all_goals try (first | with_reducible assumption | (with_reducible refine ck_nzI ?_; simp; done) | (with_reducible refine ck_nzL ?_; simp; done) | (with_reducible refine vp_in_nI ?_ ?_ <;> first | omega | decide) | (with_reducible refine Nat.le_of_ble_eq_true ?_; rfl) | omega | exact Or.inl trivial | exact Or.inr trivial | exact Or.inl rfl | exact Or.inr rfl)
        · intro zc21
          with_reducible first | have ze21 := Int32.not_lt.mpr zc21 | have ze21 := zc21
          refine hB bX7_witnessOf_86 _ _ _ _ _ _ _ kX7_witnessOf_86 ?_
          dsimp only [bX7_witnessOf_86, kx_wp, kx_step, kx_lI, kx_lL, kx_lA, kx_gl, kx_pI, kx_pL, kx_pR, kx_pA, kx_pV, kx_s1, kx_s2, kx_sl, kx_pre, kx_c2, kx_pl, kx_cmp, kx_oF, kx_eqN, kx_nil, kx_c1, kx_ft, kx_aI, kx_aL, kx_aR, kx_ln, Nat.reduceAdd, Option.toList, List.cons_append, List.nil_append, cf7_1]
          repeat (simp only [sW_71, sW_76, sW_77, sW_p71, sW_p76, sW_p77, nI_1, t1, t2, t3, t4, t5, pk_us, pk_un, ne_eq, Nat.reduceEqDiff, not_false_eq_true, ks_eq, ks_ss]; try dsimp only [kx_wp, kx_step, kx_lI, kx_lL, kx_lA, kx_gl, kx_pI, kx_pL, kx_pR, kx_pA, kx_pV, kx_s1, kx_s2, kx_sl, kx_pre, kx_c2, kx_pl, kx_cmp, kx_oF, kx_eqN, kx_nil, kx_c1, kx_ft, kx_aI, kx_aL, kx_aR, kx_ln, Nat.reduceAdd, Option.toList, List.cons_append, List.nil_append, cf7_1])
          all_goals (repeat' apply And.intro)
          all_goals ((try clear hB hC); first | exact True.intro | exact ⟨_, _, _, rfl, hF⟩ | (simp only [zc12, ze12, zc21, ze21, ↓reduceIte] at he; rw [← he]; done) | (rw [← he]; done) | exact ⟨_, _, _, rfl, rfl⟩ | trace_state)
        · intro zc21
          first | exact absurd rfl zc21 | exact absurd zc21 (by decide) | exact absurd (by decide) zc21 | (exfalso; first | exact zc12 hah | exact hah zc12 | exact zc44 ht | exact ht zc44 | exact absurd ((nI_leI (a := min sd 200) (b := min sd 200) (by omega) (by omega)).mpr (by omega)) zc21 | exact absurd ((nI_leI (a := min sd 200) (b := k) (by omega) (by omega)).mp zc21) (by omega)) | (exfalso; simp_all; done)
    | succ n9 ih =>
      intro k ah la F X Y x9 hk hF he
      rw [cx_wi] at he
      have hks : k < sd := by omega
      obtain ⟨ci, nn, q, hci, e1, e2, hnn, e3, hq⟩ := hso.1 ((sd - 1 - k) % 200) (Nat.mod_lt _ (by omega)) (Nat.lt_of_le_of_lt (Nat.mod_le _ _) (by omega))
      have e6 : nI q / 60 = nI (q / 60) := pk_div (d := 60) (by omega) (by omega) (by omega)
      have c2 : (nI ((sd - 1 - k) % 200)).toNatClampNeg = (sd - 1 - k) % 200 := nI_clamp (by omega)
      simp only [e3, e6] at he
      by_cases hah : ah < 0
      · refine hB bX7_witnessOf_10 _ _ _ _ _ _ _ kX7_witnessOf_10 ?_
        dsimp only [bX7_witnessOf_10, kx_wp, kx_step, kx_lI, kx_lL, kx_lA, kx_gl, kx_pI, kx_pL, kx_pR, kx_pA, kx_pV, kx_s1, kx_s2, kx_sl, kx_pre, kx_c2, kx_pl, kx_cmp, kx_oF, kx_eqN, kx_nil, kx_c1, kx_ft, kx_aI, kx_aL, kx_aR, kx_ln, Nat.reduceAdd, Option.toList, List.cons_append, List.nil_append, cf7_1]
        repeat (simp only [sW_71, sW_76, sW_77, sW_p71, sW_p76, sW_p77, nI_1, t1, t2, t3, t4, t5, pk_us, pk_un, ne_eq, Nat.reduceEqDiff, not_false_eq_true, ks_eq, ks_ss, e3, e6, c2]; try dsimp only [kx_wp, kx_step, kx_lI, kx_lL, kx_lA, kx_gl, kx_pI, kx_pL, kx_pR, kx_pA, kx_pV, kx_s1, kx_s2, kx_sl, kx_pre, kx_c2, kx_pl, kx_cmp, kx_oF, kx_eqN, kx_nil, kx_c1, kx_ft, kx_aI, kx_aL, kx_aR, kx_ln, Nat.reduceAdd, Option.toList, List.cons_append, List.nil_append, cf7_1])
        repeat' apply And.intro
        all_goals try (first | with_reducible assumption | (with_reducible refine ck_nzI ?_; simp; done) | (with_reducible refine ck_nzL ?_; simp; done) | (with_reducible refine vp_in_nI ?_ ?_ <;> first | omega | decide) | (with_reducible refine Nat.le_of_ble_eq_true ?_; rfl) | omega | exact Or.inl trivial | exact Or.inr trivial | exact Or.inl rfl | exact Or.inr rfl)
        · intro zc12
          with_reducible first | have ze12 := Int32.not_le.mpr zc12 | have ze12 := zc12
          simp only [if_pos hah] at he
          refine hB bX7_witnessOf_86 _ _ _ _ _ _ _ kX7_witnessOf_86 ?_
          dsimp only [bX7_witnessOf_86, kx_wp, kx_step, kx_lI, kx_lL, kx_lA, kx_gl, kx_pI, kx_pL, kx_pR, kx_pA, kx_pV, kx_s1, kx_s2, kx_sl, kx_pre, kx_c2, kx_pl, kx_cmp, kx_oF, kx_eqN, kx_nil, kx_c1, kx_ft, kx_aI, kx_aL, kx_aR, kx_ln, Nat.reduceAdd, Option.toList, List.cons_append, List.nil_append]
          exact ⟨by rw [← he], ⟨_, _, _, rfl, hF⟩, rfl⟩
        · intro zc12
          first | exact absurd rfl zc12 | exact absurd zc12 (by decide) | exact absurd (by decide) zc12 | (exfalso; first | exact zc12 hah | exact hah zc12 | exact zc44 ht | exact ht zc44 | exact absurd ((nI_leI (a := min sd 200) (b := min sd 200) (by omega) (by omega)).mpr (by omega)) zc21 | exact absurd ((nI_leI (a := min sd 200) (b := k) (by omega) (by omega)).mp zc21) (by omega)) | (exfalso; simp_all; done)
      · rw [if_neg hah] at he
        by_cases ht : nI (q / 60) = la
        · refine hB bX7_witnessOf_10 _ _ _ _ _ _ _ kX7_witnessOf_10 ?_
          dsimp only [bX7_witnessOf_10, kx_wp, kx_step, kx_lI, kx_lL, kx_lA, kx_gl, kx_pI, kx_pL, kx_pR, kx_pA, kx_pV, kx_s1, kx_s2, kx_sl, kx_pre, kx_c2, kx_pl, kx_cmp, kx_oF, kx_eqN, kx_nil, kx_c1, kx_ft, kx_aI, kx_aL, kx_aR, kx_ln, Nat.reduceAdd, Option.toList, List.cons_append, List.nil_append, cf7_1]
          repeat (simp only [sW_71, sW_76, sW_77, sW_p71, sW_p76, sW_p77, nI_1, t1, t2, t3, t4, t5, pk_us, pk_un, ne_eq, Nat.reduceEqDiff, not_false_eq_true, ks_eq, ks_ss, e3, e6, c2]; try dsimp only [kx_wp, kx_step, kx_lI, kx_lL, kx_lA, kx_gl, kx_pI, kx_pL, kx_pR, kx_pA, kx_pV, kx_s1, kx_s2, kx_sl, kx_pre, kx_c2, kx_pl, kx_cmp, kx_oF, kx_eqN, kx_nil, kx_c1, kx_ft, kx_aI, kx_aL, kx_aR, kx_ln, Nat.reduceAdd, Option.toList, List.cons_append, List.nil_append, cf7_1])
          repeat' apply And.intro
          all_goals try (first | with_reducible assumption | (with_reducible refine ck_nzI ?_; simp; done) | (with_reducible refine ck_nzL ?_; simp; done) | (with_reducible refine vp_in_nI ?_ ?_ <;> first | omega | decide) | (with_reducible refine Nat.le_of_ble_eq_true ?_; rfl) | omega | exact Or.inl trivial | exact Or.inr trivial | exact Or.inl rfl | exact Or.inr rfl)
          · intro zc12
            first | exact absurd rfl zc12 | exact absurd zc12 (by decide) | exact absurd (by decide) zc12 | (exfalso; first | exact zc12 hah | exact hah zc12 | exact zc44 ht | exact ht zc44 | exact absurd ((nI_leI (a := min sd 200) (b := min sd 200) (by omega) (by omega)).mpr (by omega)) zc21 | exact absurd ((nI_leI (a := min sd 200) (b := k) (by omega) (by omega)).mp zc21) (by omega)) | (exfalso; simp_all; done)
          · intro zc12
            with_reducible first | have ze12 := Int32.not_lt.mp zc12 | have ze12 := zc12
            refine hB bX7_witnessOf_15 _ _ _ _ _ _ _ kX7_witnessOf_15 ?_
            dsimp only [bX7_witnessOf_15, kx_wp, kx_step, kx_lI, kx_lL, kx_lA, kx_gl, kx_pI, kx_pL, kx_pR, kx_pA, kx_pV, kx_s1, kx_s2, kx_sl, kx_pre, kx_c2, kx_pl, kx_cmp, kx_oF, kx_eqN, kx_nil, kx_c1, kx_ft, kx_aI, kx_aL, kx_aR, kx_ln, Nat.reduceAdd, Option.toList, List.cons_append, List.nil_append, cf7_1]
            repeat (simp only [sW_71, sW_76, sW_77, sW_p71, sW_p76, sW_p77, nI_1, t1, t2, t3, t4, t5, pk_us, pk_un, ne_eq, Nat.reduceEqDiff, not_false_eq_true, ks_eq, ks_ss, e3, e6, c2]; try dsimp only [kx_wp, kx_step, kx_lI, kx_lL, kx_lA, kx_gl, kx_pI, kx_pL, kx_pR, kx_pA, kx_pV, kx_s1, kx_s2, kx_sl, kx_pre, kx_c2, kx_pl, kx_cmp, kx_oF, kx_eqN, kx_nil, kx_c1, kx_ft, kx_aI, kx_aL, kx_aR, kx_ln, Nat.reduceAdd, Option.toList, List.cons_append, List.nil_append, cf7_1])
            repeat' apply And.intro
            all_goals try (first | with_reducible assumption | (with_reducible refine ck_nzI ?_; simp; done) | (with_reducible refine ck_nzL ?_; simp; done) | (with_reducible refine vp_in_nI ?_ ?_ <;> first | omega | decide) | (with_reducible refine Nat.le_of_ble_eq_true ?_; rfl) | omega | exact Or.inl trivial | exact Or.inr trivial | exact Or.inl rfl | exact Or.inr rfl)
            refine hC.1 49 _ _ _ _ _ _ _ 7 _ _ _ _ _ _ _ _ _ _ _ _ lX7_49 (ct_X7_keptNow l G sW_71 hF hsd) ⟨by decide, rfl⟩ (sW_71) rfl rfl (Nat.le_of_ble_eq_true rfl) (by decide) (by decide) (by omega) (by omega) dX7_witnessOf_18 ?_
            refine hB bX7_witnessOf_21 _ _ _ _ _ _ _ kX7_witnessOf_21 ?_
            dsimp only [bX7_witnessOf_21, kx_wp, kx_step, kx_lI, kx_lL, kx_lA, kx_gl, kx_pI, kx_pL, kx_pR, kx_pA, kx_pV, kx_s1, kx_s2, kx_sl, kx_pre, kx_c2, kx_pl, kx_cmp, kx_oF, kx_eqN, kx_nil, kx_c1, kx_ft, kx_aI, kx_aL, kx_aR, kx_ln, Nat.reduceAdd, Option.toList, List.cons_append, List.nil_append, cf7_1]
            repeat (simp only [sW_71, sW_76, sW_77, sW_p71, sW_p76, sW_p77, nI_1, t1, t2, t3, t4, t5, pk_us, pk_un, ne_eq, Nat.reduceEqDiff, not_false_eq_true, ks_eq, ks_ss, e3, e6, c2]; try dsimp only [kx_wp, kx_step, kx_lI, kx_lL, kx_lA, kx_gl, kx_pI, kx_pL, kx_pR, kx_pA, kx_pV, kx_s1, kx_s2, kx_sl, kx_pre, kx_c2, kx_pl, kx_cmp, kx_oF, kx_eqN, kx_nil, kx_c1, kx_ft, kx_aI, kx_aL, kx_aR, kx_ln, Nat.reduceAdd, Option.toList, List.cons_append, List.nil_append, cf7_1])
            repeat' apply And.intro
            all_goals try (first | with_reducible assumption | (with_reducible refine ck_nzI ?_; simp; done) | (with_reducible refine ck_nzL ?_; simp; done) | (with_reducible refine vp_in_nI ?_ ?_ <;> first | omega | decide) | (with_reducible refine Nat.le_of_ble_eq_true ?_; rfl) | omega | exact Or.inl trivial | exact Or.inr trivial | exact Or.inl rfl | exact Or.inr rfl)
            · intro zc21
              first | exact absurd rfl zc21 | exact absurd zc21 (by decide) | exact absurd (by decide) zc21 | (exfalso; first | exact zc12 hah | exact hah zc12 | exact zc44 ht | exact ht zc44 | exact absurd ((nI_leI (a := min sd 200) (b := min sd 200) (by omega) (by omega)).mpr (by omega)) zc21 | exact absurd ((nI_leI (a := min sd 200) (b := k) (by omega) (by omega)).mp zc21) (by omega)) | (exfalso; simp_all; done)
            · intro zc21
              with_reducible first | have ze21 := Int32.not_le.mp zc21 | have ze21 := zc21
              refine hB bX7_witnessOf_24 _ _ _ _ _ _ _ kX7_witnessOf_24 ?_
              dsimp only [bX7_witnessOf_24, kx_wp, kx_step, kx_lI, kx_lL, kx_lA, kx_gl, kx_pI, kx_pL, kx_pR, kx_pA, kx_pV, kx_s1, kx_s2, kx_sl, kx_pre, kx_c2, kx_pl, kx_cmp, kx_oF, kx_eqN, kx_nil, kx_c1, kx_ft, kx_aI, kx_aL, kx_aR, kx_ln, Nat.reduceAdd, Option.toList, List.cons_append, List.nil_append, cf7_1]
              repeat (simp only [sW_71, sW_76, sW_77, sW_p71, sW_p76, sW_p77, nI_1, t1, t2, t3, t4, t5, pk_us, pk_un, ne_eq, Nat.reduceEqDiff, not_false_eq_true, ks_eq, ks_ss, e3, e6, c2]; try dsimp only [kx_wp, kx_step, kx_lI, kx_lL, kx_lA, kx_gl, kx_pI, kx_pL, kx_pR, kx_pA, kx_pV, kx_s1, kx_s2, kx_sl, kx_pre, kx_c2, kx_pl, kx_cmp, kx_oF, kx_eqN, kx_nil, kx_c1, kx_ft, kx_aI, kx_aL, kx_aR, kx_ln, Nat.reduceAdd, Option.toList, List.cons_append, List.nil_append, cf7_1])
              repeat' apply And.intro
              all_goals try (first | with_reducible assumption | (with_reducible refine ck_nzI ?_; simp; done) | (with_reducible refine ck_nzL ?_; simp; done) | (with_reducible refine vp_in_nI ?_ ?_ <;> first | omega | decide) | (with_reducible refine Nat.le_of_ble_eq_true ?_; rfl) | omega | exact Or.inl trivial | exact Or.inr trivial | exact Or.inl rfl | exact Or.inr rfl)
              refine hC.1 53 _ _ _ _ _ _ _ 7 _ _ _ _ _ _ _ _ _ _ _ _ lX7_53 (ct_X7_rowOf l G sW_71 hF hsd hks) ⟨by decide, rfl⟩ (sW_71) rfl rfl (Nat.le_of_ble_eq_true rfl) (by decide) (by decide) (by omega) (by omega) dX7_witnessOf_31 ?_
              refine hB bX7_witnessOf_34 _ _ _ _ _ _ _ kX7_witnessOf_34 ?_
              dsimp only [bX7_witnessOf_34, kx_wp, kx_step, kx_lI, kx_lL, kx_lA, kx_gl, kx_pI, kx_pL, kx_pR, kx_pA, kx_pV, kx_s1, kx_s2, kx_sl, kx_pre, kx_c2, kx_pl, kx_cmp, kx_oF, kx_eqN, kx_nil, kx_c1, kx_ft, kx_aI, kx_aL, kx_aR, kx_ln, Nat.reduceAdd, Option.toList, List.cons_append, List.nil_append, cf7_1]
              repeat (simp only [sW_71, sW_76, sW_77, sW_p71, sW_p76, sW_p77, nI_1, t1, t2, t3, t4, t5, pk_us, pk_un, ne_eq, Nat.reduceEqDiff, not_false_eq_true, ks_eq, ks_ss, e3, e6, c2]; try dsimp only [kx_wp, kx_step, kx_lI, kx_lL, kx_lA, kx_gl, kx_pI, kx_pL, kx_pR, kx_pA, kx_pV, kx_s1, kx_s2, kx_sl, kx_pre, kx_c2, kx_pl, kx_cmp, kx_oF, kx_eqN, kx_nil, kx_c1, kx_ft, kx_aI, kx_aL, kx_aR, kx_ln, Nat.reduceAdd, Option.toList, List.cons_append, List.nil_append, cf7_1])
              repeat' apply And.intro
              all_goals try (first | with_reducible assumption | (with_reducible refine ck_nzI ?_; simp; done) | (with_reducible refine ck_nzL ?_; simp; done) | (with_reducible refine vp_in_nI ?_ ?_ <;> first | omega | decide) | (with_reducible refine Nat.le_of_ble_eq_true ?_; rfl) | omega | exact Or.inl trivial | exact Or.inr trivial | exact Or.inl rfl | exact Or.inr rfl)
              · intro zc44
                have ze44 := zc44
                refine hB bX7_witnessOf_80 _ _ _ _ _ _ _ kX7_witnessOf_80 ?_
                dsimp only [bX7_witnessOf_80, kx_wp, kx_step, kx_lI, kx_lL, kx_lA, kx_gl, kx_pI, kx_pL, kx_pR, kx_pA, kx_pV, kx_s1, kx_s2, kx_sl, kx_pre, kx_c2, kx_pl, kx_cmp, kx_oF, kx_eqN, kx_nil, kx_c1, kx_ft, kx_aI, kx_aL, kx_aR, kx_ln, Nat.reduceAdd, Option.toList, List.cons_append, List.nil_append, cf7_1]
                repeat (simp only [sW_71, sW_76, sW_77, sW_p71, sW_p76, sW_p77, nI_1, t1, t2, t3, t4, t5, pk_us, pk_un, ne_eq, Nat.reduceEqDiff, not_false_eq_true, ks_eq, ks_ss, e3, e6, c2]; try dsimp only [kx_wp, kx_step, kx_lI, kx_lL, kx_lA, kx_gl, kx_pI, kx_pL, kx_pR, kx_pA, kx_pV, kx_s1, kx_s2, kx_sl, kx_pre, kx_c2, kx_pl, kx_cmp, kx_oF, kx_eqN, kx_nil, kx_c1, kx_ft, kx_aI, kx_aL, kx_aR, kx_ln, Nat.reduceAdd, Option.toList, List.cons_append, List.nil_append, cf7_1])
                repeat' apply And.intro
                all_goals try (first | with_reducible assumption | (with_reducible refine ck_nzI ?_; simp; done) | (with_reducible refine ck_nzL ?_; simp; done) | (with_reducible refine vp_in_nI ?_ ?_ <;> first | omega | decide) | (with_reducible refine Nat.le_of_ble_eq_true ?_; rfl) | omega | exact Or.inl trivial | exact Or.inr trivial | exact Or.inl rfl | exact Or.inr rfl)
                rw [if_pos ht] at he
                exact ih (k + 1) _ _ _ _ _ _ (by omega) hF he
              · intro zc44
                first | exact absurd rfl zc44 | exact absurd zc44 (by decide) | exact absurd (by decide) zc44 | (exfalso; first | exact zc12 hah | exact hah zc12 | exact zc44 ht | exact ht zc44 | exact absurd ((nI_leI (a := min sd 200) (b := min sd 200) (by omega) (by omega)).mpr (by omega)) zc21 | exact absurd ((nI_leI (a := min sd 200) (b := k) (by omega) (by omega)).mp zc21) (by omega)) | (exfalso; simp_all; done)
        · refine hB bX7_witnessOf_10 _ _ _ _ _ _ _ kX7_witnessOf_10 ?_
          dsimp only [bX7_witnessOf_10, kx_wp, kx_step, kx_lI, kx_lL, kx_lA, kx_gl, kx_pI, kx_pL, kx_pR, kx_pA, kx_pV, kx_s1, kx_s2, kx_sl, kx_pre, kx_c2, kx_pl, kx_cmp, kx_oF, kx_eqN, kx_nil, kx_c1, kx_ft, kx_aI, kx_aL, kx_aR, kx_ln, Nat.reduceAdd, Option.toList, List.cons_append, List.nil_append, cf7_1]
          repeat (simp only [sW_71, sW_76, sW_77, sW_p71, sW_p76, sW_p77, nI_1, t1, t2, t3, t4, t5, pk_us, pk_un, ne_eq, Nat.reduceEqDiff, not_false_eq_true, ks_eq, ks_ss, e3, e6, c2]; try dsimp only [kx_wp, kx_step, kx_lI, kx_lL, kx_lA, kx_gl, kx_pI, kx_pL, kx_pR, kx_pA, kx_pV, kx_s1, kx_s2, kx_sl, kx_pre, kx_c2, kx_pl, kx_cmp, kx_oF, kx_eqN, kx_nil, kx_c1, kx_ft, kx_aI, kx_aL, kx_aR, kx_ln, Nat.reduceAdd, Option.toList, List.cons_append, List.nil_append, cf7_1])
          repeat' apply And.intro
          all_goals try (first | with_reducible assumption | (with_reducible refine ck_nzI ?_; simp; done) | (with_reducible refine ck_nzL ?_; simp; done) | (with_reducible refine vp_in_nI ?_ ?_ <;> first | omega | decide) | (with_reducible refine Nat.le_of_ble_eq_true ?_; rfl) | omega | exact Or.inl trivial | exact Or.inr trivial | exact Or.inl rfl | exact Or.inr rfl)
          · intro zc12
            first | exact absurd rfl zc12 | exact absurd zc12 (by decide) | exact absurd (by decide) zc12 | (exfalso; first | exact zc12 hah | exact hah zc12 | exact zc44 ht | exact ht zc44 | exact absurd ((nI_leI (a := min sd 200) (b := min sd 200) (by omega) (by omega)).mpr (by omega)) zc21 | exact absurd ((nI_leI (a := min sd 200) (b := k) (by omega) (by omega)).mp zc21) (by omega)) | (exfalso; simp_all; done)
          · intro zc12
            with_reducible first | have ze12 := Int32.not_lt.mp zc12 | have ze12 := zc12
            refine hB bX7_witnessOf_15 _ _ _ _ _ _ _ kX7_witnessOf_15 ?_
            dsimp only [bX7_witnessOf_15, kx_wp, kx_step, kx_lI, kx_lL, kx_lA, kx_gl, kx_pI, kx_pL, kx_pR, kx_pA, kx_pV, kx_s1, kx_s2, kx_sl, kx_pre, kx_c2, kx_pl, kx_cmp, kx_oF, kx_eqN, kx_nil, kx_c1, kx_ft, kx_aI, kx_aL, kx_aR, kx_ln, Nat.reduceAdd, Option.toList, List.cons_append, List.nil_append, cf7_1]
            repeat (simp only [sW_71, sW_76, sW_77, sW_p71, sW_p76, sW_p77, nI_1, t1, t2, t3, t4, t5, pk_us, pk_un, ne_eq, Nat.reduceEqDiff, not_false_eq_true, ks_eq, ks_ss, e3, e6, c2]; try dsimp only [kx_wp, kx_step, kx_lI, kx_lL, kx_lA, kx_gl, kx_pI, kx_pL, kx_pR, kx_pA, kx_pV, kx_s1, kx_s2, kx_sl, kx_pre, kx_c2, kx_pl, kx_cmp, kx_oF, kx_eqN, kx_nil, kx_c1, kx_ft, kx_aI, kx_aL, kx_aR, kx_ln, Nat.reduceAdd, Option.toList, List.cons_append, List.nil_append, cf7_1])
            repeat' apply And.intro
            all_goals try (first | with_reducible assumption | (with_reducible refine ck_nzI ?_; simp; done) | (with_reducible refine ck_nzL ?_; simp; done) | (with_reducible refine vp_in_nI ?_ ?_ <;> first | omega | decide) | (with_reducible refine Nat.le_of_ble_eq_true ?_; rfl) | omega | exact Or.inl trivial | exact Or.inr trivial | exact Or.inl rfl | exact Or.inr rfl)
            refine hC.1 49 _ _ _ _ _ _ _ 7 _ _ _ _ _ _ _ _ _ _ _ _ lX7_49 (ct_X7_keptNow l G sW_71 hF hsd) ⟨by decide, rfl⟩ (sW_71) rfl rfl (Nat.le_of_ble_eq_true rfl) (by decide) (by decide) (by omega) (by omega) dX7_witnessOf_18 ?_
            refine hB bX7_witnessOf_21 _ _ _ _ _ _ _ kX7_witnessOf_21 ?_
            dsimp only [bX7_witnessOf_21, kx_wp, kx_step, kx_lI, kx_lL, kx_lA, kx_gl, kx_pI, kx_pL, kx_pR, kx_pA, kx_pV, kx_s1, kx_s2, kx_sl, kx_pre, kx_c2, kx_pl, kx_cmp, kx_oF, kx_eqN, kx_nil, kx_c1, kx_ft, kx_aI, kx_aL, kx_aR, kx_ln, Nat.reduceAdd, Option.toList, List.cons_append, List.nil_append, cf7_1]
            repeat (simp only [sW_71, sW_76, sW_77, sW_p71, sW_p76, sW_p77, nI_1, t1, t2, t3, t4, t5, pk_us, pk_un, ne_eq, Nat.reduceEqDiff, not_false_eq_true, ks_eq, ks_ss, e3, e6, c2]; try dsimp only [kx_wp, kx_step, kx_lI, kx_lL, kx_lA, kx_gl, kx_pI, kx_pL, kx_pR, kx_pA, kx_pV, kx_s1, kx_s2, kx_sl, kx_pre, kx_c2, kx_pl, kx_cmp, kx_oF, kx_eqN, kx_nil, kx_c1, kx_ft, kx_aI, kx_aL, kx_aR, kx_ln, Nat.reduceAdd, Option.toList, List.cons_append, List.nil_append, cf7_1])
            repeat' apply And.intro
            all_goals try (first | with_reducible assumption | (with_reducible refine ck_nzI ?_; simp; done) | (with_reducible refine ck_nzL ?_; simp; done) | (with_reducible refine vp_in_nI ?_ ?_ <;> first | omega | decide) | (with_reducible refine Nat.le_of_ble_eq_true ?_; rfl) | omega | exact Or.inl trivial | exact Or.inr trivial | exact Or.inl rfl | exact Or.inr rfl)
            · intro zc21
              first | exact absurd rfl zc21 | exact absurd zc21 (by decide) | exact absurd (by decide) zc21 | (exfalso; first | exact zc12 hah | exact hah zc12 | exact zc44 ht | exact ht zc44 | exact absurd ((nI_leI (a := min sd 200) (b := min sd 200) (by omega) (by omega)).mpr (by omega)) zc21 | exact absurd ((nI_leI (a := min sd 200) (b := k) (by omega) (by omega)).mp zc21) (by omega)) | (exfalso; simp_all; done)
            · intro zc21
              with_reducible first | have ze21 := Int32.not_le.mp zc21 | have ze21 := zc21
              refine hB bX7_witnessOf_24 _ _ _ _ _ _ _ kX7_witnessOf_24 ?_
              dsimp only [bX7_witnessOf_24, kx_wp, kx_step, kx_lI, kx_lL, kx_lA, kx_gl, kx_pI, kx_pL, kx_pR, kx_pA, kx_pV, kx_s1, kx_s2, kx_sl, kx_pre, kx_c2, kx_pl, kx_cmp, kx_oF, kx_eqN, kx_nil, kx_c1, kx_ft, kx_aI, kx_aL, kx_aR, kx_ln, Nat.reduceAdd, Option.toList, List.cons_append, List.nil_append, cf7_1]
              repeat (simp only [sW_71, sW_76, sW_77, sW_p71, sW_p76, sW_p77, nI_1, t1, t2, t3, t4, t5, pk_us, pk_un, ne_eq, Nat.reduceEqDiff, not_false_eq_true, ks_eq, ks_ss, e3, e6, c2]; try dsimp only [kx_wp, kx_step, kx_lI, kx_lL, kx_lA, kx_gl, kx_pI, kx_pL, kx_pR, kx_pA, kx_pV, kx_s1, kx_s2, kx_sl, kx_pre, kx_c2, kx_pl, kx_cmp, kx_oF, kx_eqN, kx_nil, kx_c1, kx_ft, kx_aI, kx_aL, kx_aR, kx_ln, Nat.reduceAdd, Option.toList, List.cons_append, List.nil_append, cf7_1])
              repeat' apply And.intro
              all_goals try (first | with_reducible assumption | (with_reducible refine ck_nzI ?_; simp; done) | (with_reducible refine ck_nzL ?_; simp; done) | (with_reducible refine vp_in_nI ?_ ?_ <;> first | omega | decide) | (with_reducible refine Nat.le_of_ble_eq_true ?_; rfl) | omega | exact Or.inl trivial | exact Or.inr trivial | exact Or.inl rfl | exact Or.inr rfl)
              refine hC.1 53 _ _ _ _ _ _ _ 7 _ _ _ _ _ _ _ _ _ _ _ _ lX7_53 (ct_X7_rowOf l G sW_71 hF hsd hks) ⟨by decide, rfl⟩ (sW_71) rfl rfl (Nat.le_of_ble_eq_true rfl) (by decide) (by decide) (by omega) (by omega) dX7_witnessOf_31 ?_
              refine hB bX7_witnessOf_34 _ _ _ _ _ _ _ kX7_witnessOf_34 ?_
              dsimp only [bX7_witnessOf_34, kx_wp, kx_step, kx_lI, kx_lL, kx_lA, kx_gl, kx_pI, kx_pL, kx_pR, kx_pA, kx_pV, kx_s1, kx_s2, kx_sl, kx_pre, kx_c2, kx_pl, kx_cmp, kx_oF, kx_eqN, kx_nil, kx_c1, kx_ft, kx_aI, kx_aL, kx_aR, kx_ln, Nat.reduceAdd, Option.toList, List.cons_append, List.nil_append, cf7_1]
              repeat (simp only [sW_71, sW_76, sW_77, sW_p71, sW_p76, sW_p77, nI_1, t1, t2, t3, t4, t5, pk_us, pk_un, ne_eq, Nat.reduceEqDiff, not_false_eq_true, ks_eq, ks_ss, e3, e6, c2]; try dsimp only [kx_wp, kx_step, kx_lI, kx_lL, kx_lA, kx_gl, kx_pI, kx_pL, kx_pR, kx_pA, kx_pV, kx_s1, kx_s2, kx_sl, kx_pre, kx_c2, kx_pl, kx_cmp, kx_oF, kx_eqN, kx_nil, kx_c1, kx_ft, kx_aI, kx_aL, kx_aR, kx_ln, Nat.reduceAdd, Option.toList, List.cons_append, List.nil_append, cf7_1])
              repeat' apply And.intro
              all_goals try (first | with_reducible assumption | (with_reducible refine ck_nzI ?_; simp; done) | (with_reducible refine ck_nzL ?_; simp; done) | (with_reducible refine vp_in_nI ?_ ?_ <;> first | omega | decide) | (with_reducible refine Nat.le_of_ble_eq_true ?_; rfl) | omega | exact Or.inl trivial | exact Or.inr trivial | exact Or.inl rfl | exact Or.inr rfl)
              · intro zc44
                first | exact absurd rfl zc44 | exact absurd zc44 (by decide) | exact absurd (by decide) zc44 | (exfalso; first | exact zc12 hah | exact hah zc12 | exact zc44 ht | exact ht zc44 | exact absurd ((nI_leI (a := min sd 200) (b := min sd 200) (by omega) (by omega)).mpr (by omega)) zc21 | exact absurd ((nI_leI (a := min sd 200) (b := k) (by omega) (by omega)).mp zc21) (by omega)) | (exfalso; simp_all; done)
              · intro zc44
                have ze44 := zc44
                refine hB bX7_witnessOf_47 _ _ _ _ _ _ _ kX7_witnessOf_47 ?_
                dsimp only [bX7_witnessOf_47, kx_wp, kx_step, kx_lI, kx_lL, kx_lA, kx_gl, kx_pI, kx_pL, kx_pR, kx_pA, kx_pV, kx_s1, kx_s2, kx_sl, kx_pre, kx_c2, kx_pl, kx_cmp, kx_oF, kx_eqN, kx_nil, kx_c1, kx_ft, kx_aI, kx_aL, kx_aR, kx_ln, Nat.reduceAdd, Option.toList, List.cons_append, List.nil_append, cf7_1]
                repeat (simp only [sW_71, sW_76, sW_77, sW_p71, sW_p76, sW_p77, nI_1, t1, t2, t3, t4, t5, pk_us, pk_un, ne_eq, Nat.reduceEqDiff, not_false_eq_true, ks_eq, ks_ss, e3, e6, c2]; try dsimp only [kx_wp, kx_step, kx_lI, kx_lL, kx_lA, kx_gl, kx_pI, kx_pL, kx_pR, kx_pA, kx_pV, kx_s1, kx_s2, kx_sl, kx_pre, kx_c2, kx_pl, kx_cmp, kx_oF, kx_eqN, kx_nil, kx_c1, kx_ft, kx_aI, kx_aL, kx_aR, kx_ln, Nat.reduceAdd, Option.toList, List.cons_append, List.nil_append, cf7_1])
                repeat' apply And.intro
                all_goals try (first | with_reducible assumption | (with_reducible refine ck_nzI ?_; simp; done) | (with_reducible refine ck_nzL ?_; simp; done) | (with_reducible refine vp_in_nI ?_ ?_ <;> first | omega | decide) | (with_reducible refine Nat.le_of_ble_eq_true ?_; rfl) | omega | exact Or.inl trivial | exact Or.inr trivial | exact Or.inl rfl | exact Or.inr rfl)
                refine hC.1 84 _ _ _ _ _ _ _ 7 _ _ _ _ _ _ _ _ _ _ _ _ lX7_84 (ct_X7_listen l G hS0 hF hsd hcl hC0 hso hx hy (m := q / 60) (by omega)) ⟨by decide, rfl⟩ (sW_71) rfl rfl (Nat.le_of_ble_eq_true rfl) (by decide) (by decide) (by omega) (by omega) dX7_witnessOf_57 ?_
                refine hB bX7_witnessOf_60 _ _ _ _ _ _ _ kX7_witnessOf_60 ?_
                dsimp only [bX7_witnessOf_60, kx_wp, kx_step, kx_lI, kx_lL, kx_lA, kx_gl, kx_pI, kx_pL, kx_pR, kx_pA, kx_pV, kx_s1, kx_s2, kx_sl, kx_pre, kx_c2, kx_pl, kx_cmp, kx_oF, kx_eqN, kx_nil, kx_c1, kx_ft, kx_aI, kx_aL, kx_aR, kx_ln, Nat.reduceAdd, Option.toList, List.cons_append, List.nil_append, cf7_1]
                repeat (simp only [sW_71, sW_76, sW_77, sW_p71, sW_p76, sW_p77, nI_1, t1, t2, t3, t4, t5, pk_us, pk_un, ne_eq, Nat.reduceEqDiff, not_false_eq_true, ks_eq, ks_ss, e3, e6, c2]; try dsimp only [kx_wp, kx_step, kx_lI, kx_lL, kx_lA, kx_gl, kx_pI, kx_pL, kx_pR, kx_pA, kx_pV, kx_s1, kx_s2, kx_sl, kx_pre, kx_c2, kx_pl, kx_cmp, kx_oF, kx_eqN, kx_nil, kx_c1, kx_ft, kx_aI, kx_aL, kx_aR, kx_ln, Nat.reduceAdd, Option.toList, List.cons_append, List.nil_append, cf7_1])
                repeat' apply And.intro
                all_goals try (first | with_reducible assumption | (with_reducible refine ck_nzI ?_; simp; done) | (with_reducible refine ck_nzL ?_; simp; done) | (with_reducible refine vp_in_nI ?_ ?_ <;> first | omega | decide) | (with_reducible refine Nat.le_of_ble_eq_true ?_; rfl) | omega | exact Or.inl trivial | exact Or.inr trivial | exact Or.inl rfl | exact Or.inr rfl)
                refine hC.1 88 _ _ _ _ _ _ _ 7 _ _ _ _ _ _ _ _ _ _ _ _ lX7_88 (ct_X7_takenFor l G sW_71) ⟨by decide, rfl⟩ (sW_71) rfl rfl (Nat.le_of_ble_eq_true rfl) (by decide) (by decide) (by omega) (by omega) dX7_witnessOf_61 ?_
                rw [if_neg ht] at he
                change g 64 _ [.int (cx_tk CC VV q1 q2 q3 q4 (nI x) (nI y) (nI (q / 60)) sd)] _ _ _ _
                refine hB bX7_witnessOf_64 _ _ _ _ _ _ _ kX7_witnessOf_64 ?_
                dsimp only [bX7_witnessOf_64, kx_wp, kx_step, kx_lI, kx_lL, kx_lA, kx_gl, kx_pI, kx_pL, kx_pR, kx_pA, kx_pV, kx_s1, kx_s2, kx_sl, kx_pre, kx_c2, kx_pl, kx_cmp, kx_oF, kx_eqN, kx_nil, kx_c1, kx_ft, kx_aI, kx_aL, kx_aR, kx_ln, Nat.reduceAdd, Option.toList, List.cons_append, List.nil_append, cf7_1]
                repeat (simp only [sW_71, sW_76, sW_77, sW_p71, sW_p76, sW_p77, nI_1, t1, t2, t3, t4, t5, pk_us, pk_un, ne_eq, Nat.reduceEqDiff, not_false_eq_true, ks_eq, ks_ss, e3, e6, c2]; try dsimp only [kx_wp, kx_step, kx_lI, kx_lL, kx_lA, kx_gl, kx_pI, kx_pL, kx_pR, kx_pA, kx_pV, kx_s1, kx_s2, kx_sl, kx_pre, kx_c2, kx_pl, kx_cmp, kx_oF, kx_eqN, kx_nil, kx_c1, kx_ft, kx_aI, kx_aL, kx_aR, kx_ln, Nat.reduceAdd, Option.toList, List.cons_append, List.nil_append, cf7_1])
                repeat' apply And.intro
                all_goals try (first | with_reducible assumption | (with_reducible refine ck_nzI ?_; simp; done) | (with_reducible refine ck_nzL ?_; simp; done) | (with_reducible refine vp_in_nI ?_ ?_ <;> first | omega | decide) | (with_reducible refine Nat.le_of_ble_eq_true ?_; rfl) | omega | exact Or.inl trivial | exact Or.inr trivial | exact Or.inl rfl | exact Or.inr rfl)
                · intro zc66
                  have ze66 := zc66
                  refine hB bX7_witnessOf_80 _ _ _ _ _ _ _ kX7_witnessOf_80 ?_
                  dsimp only [bX7_witnessOf_80, kx_wp, kx_step, kx_lI, kx_lL, kx_lA, kx_gl, kx_pI, kx_pL, kx_pR, kx_pA, kx_pV, kx_s1, kx_s2, kx_sl, kx_pre, kx_c2, kx_pl, kx_cmp, kx_oF, kx_eqN, kx_nil, kx_c1, kx_ft, kx_aI, kx_aL, kx_aR, kx_ln, Nat.reduceAdd, Option.toList, List.cons_append, List.nil_append, cf7_1]
                  repeat (simp only [sW_71, sW_76, sW_77, sW_p71, sW_p76, sW_p77, nI_1, t1, t2, t3, t4, t5, pk_us, pk_un, ne_eq, Nat.reduceEqDiff, not_false_eq_true, ks_eq, ks_ss, e3, e6, c2]; try dsimp only [kx_wp, kx_step, kx_lI, kx_lL, kx_lA, kx_gl, kx_pI, kx_pL, kx_pR, kx_pA, kx_pV, kx_s1, kx_s2, kx_sl, kx_pre, kx_c2, kx_pl, kx_cmp, kx_oF, kx_eqN, kx_nil, kx_c1, kx_ft, kx_aI, kx_aL, kx_aR, kx_ln, Nat.reduceAdd, Option.toList, List.cons_append, List.nil_append, cf7_1])
                  repeat' apply And.intro
                  all_goals try (first | with_reducible assumption | (with_reducible refine ck_nzI ?_; simp; done) | (with_reducible refine ck_nzL ?_; simp; done) | (with_reducible refine vp_in_nI ?_ ?_ <;> first | omega | decide) | (with_reducible refine Nat.le_of_ble_eq_true ?_; rfl) | omega | exact Or.inl trivial | exact Or.inr trivial | exact Or.inl rfl | exact Or.inr rfl)
                  refine ih (k + 1) _ _ _ _ _ _ (by omega) (by exact hF) ?_
                  rw [← he]
                  simp only [zc12, ze12, zc21, ze21, ze44, ze66, ↓reduceIte]
                · intro zc66
                  with_reducible first | have ze66 := Decidable.not_not.mp zc66 | have ze66 := zc66
                  refine hB bX7_witnessOf_69 _ _ _ _ _ _ _ kX7_witnessOf_69 ?_
                  dsimp only [bX7_witnessOf_69, kx_wp, kx_step, kx_lI, kx_lL, kx_lA, kx_gl, kx_pI, kx_pL, kx_pR, kx_pA, kx_pV, kx_s1, kx_s2, kx_sl, kx_pre, kx_c2, kx_pl, kx_cmp, kx_oF, kx_eqN, kx_nil, kx_c1, kx_ft, kx_aI, kx_aL, kx_aR, kx_ln, Nat.reduceAdd, Option.toList, List.cons_append, List.nil_append, cf7_1]
                  repeat (simp only [sW_71, sW_76, sW_77, sW_p71, sW_p76, sW_p77, nI_1, t1, t2, t3, t4, t5, pk_us, pk_un, ne_eq, Nat.reduceEqDiff, not_false_eq_true, ks_eq, ks_ss, e3, e6, c2]; try dsimp only [kx_wp, kx_step, kx_lI, kx_lL, kx_lA, kx_gl, kx_pI, kx_pL, kx_pR, kx_pA, kx_pV, kx_s1, kx_s2, kx_sl, kx_pre, kx_c2, kx_pl, kx_cmp, kx_oF, kx_eqN, kx_nil, kx_c1, kx_ft, kx_aI, kx_aL, kx_aR, kx_ln, Nat.reduceAdd, Option.toList, List.cons_append, List.nil_append, cf7_1])
                  repeat' apply And.intro
                  all_goals try (first | with_reducible assumption | (with_reducible refine ck_nzI ?_; simp; done) | (with_reducible refine ck_nzL ?_; simp; done) | (with_reducible refine vp_in_nI ?_ ?_ <;> first | omega | decide) | (with_reducible refine Nat.le_of_ble_eq_true ?_; rfl) | omega | exact Or.inl trivial | exact Or.inr trivial | exact Or.inl rfl | exact Or.inr rfl)
                  · intro zc71
                    have ze71 := zc71
                    refine hB bX7_witnessOf_77 _ _ _ _ _ _ _ kX7_witnessOf_77 ?_
                    dsimp only [bX7_witnessOf_77, kx_wp, kx_step, kx_lI, kx_lL, kx_lA, kx_gl, kx_pI, kx_pL, kx_pR, kx_pA, kx_pV, kx_s1, kx_s2, kx_sl, kx_pre, kx_c2, kx_pl, kx_cmp, kx_oF, kx_eqN, kx_nil, kx_c1, kx_ft, kx_aI, kx_aL, kx_aR, kx_ln, Nat.reduceAdd, Option.toList, List.cons_append, List.nil_append, cf7_1]
                    repeat (simp only [sW_71, sW_76, sW_77, sW_p71, sW_p76, sW_p77, nI_1, t1, t2, t3, t4, t5, pk_us, pk_un, ne_eq, Nat.reduceEqDiff, not_false_eq_true, ks_eq, ks_ss, e3, e6, c2]; try dsimp only [kx_wp, kx_step, kx_lI, kx_lL, kx_lA, kx_gl, kx_pI, kx_pL, kx_pR, kx_pA, kx_pV, kx_s1, kx_s2, kx_sl, kx_pre, kx_c2, kx_pl, kx_cmp, kx_oF, kx_eqN, kx_nil, kx_c1, kx_ft, kx_aI, kx_aL, kx_aR, kx_ln, Nat.reduceAdd, Option.toList, List.cons_append, List.nil_append, cf7_1])
                    repeat' apply And.intro
                    all_goals try (first | with_reducible assumption | (with_reducible refine ck_nzI ?_; simp; done) | (with_reducible refine ck_nzL ?_; simp; done) | (with_reducible refine vp_in_nI ?_ ?_ <;> first | omega | decide) | (with_reducible refine Nat.le_of_ble_eq_true ?_; rfl) | omega | exact Or.inl trivial | exact Or.inr trivial | exact Or.inl rfl | exact Or.inr rfl)
                    refine hB bX7_witnessOf_80 _ _ _ _ _ _ _ kX7_witnessOf_80 ?_
                    dsimp only [bX7_witnessOf_80, kx_wp, kx_step, kx_lI, kx_lL, kx_lA, kx_gl, kx_pI, kx_pL, kx_pR, kx_pA, kx_pV, kx_s1, kx_s2, kx_sl, kx_pre, kx_c2, kx_pl, kx_cmp, kx_oF, kx_eqN, kx_nil, kx_c1, kx_ft, kx_aI, kx_aL, kx_aR, kx_ln, Nat.reduceAdd, Option.toList, List.cons_append, List.nil_append, cf7_1]
                    repeat (simp only [sW_71, sW_76, sW_77, sW_p71, sW_p76, sW_p77, nI_1, t1, t2, t3, t4, t5, pk_us, pk_un, ne_eq, Nat.reduceEqDiff, not_false_eq_true, ks_eq, ks_ss, e3, e6, c2]; try dsimp only [kx_wp, kx_step, kx_lI, kx_lL, kx_lA, kx_gl, kx_pI, kx_pL, kx_pR, kx_pA, kx_pV, kx_s1, kx_s2, kx_sl, kx_pre, kx_c2, kx_pl, kx_cmp, kx_oF, kx_eqN, kx_nil, kx_c1, kx_ft, kx_aI, kx_aL, kx_aR, kx_ln, Nat.reduceAdd, Option.toList, List.cons_append, List.nil_append, cf7_1])
                    repeat' apply And.intro
                    all_goals try (first | with_reducible assumption | (with_reducible refine ck_nzI ?_; simp; done) | (with_reducible refine ck_nzL ?_; simp; done) | (with_reducible refine vp_in_nI ?_ ?_ <;> first | omega | decide) | (with_reducible refine Nat.le_of_ble_eq_true ?_; rfl) | omega | exact Or.inl trivial | exact Or.inr trivial | exact Or.inl rfl | exact Or.inr rfl)
                    refine ih (k + 1) _ _ _ _ _ _ (by omega) (by exact hF) ?_
                    rw [← he]
                    simp only [zc12, ze12, zc21, ze21, ze44, eq_true ze66, ze71, ↓reduceIte]
                  · intro zc71
                    with_reducible first | have ze71 := Decidable.not_not.mp zc71 | have ze71 := zc71
                    refine hB bX7_witnessOf_74 _ _ _ _ _ _ _ kX7_witnessOf_74 ?_
                    dsimp only [bX7_witnessOf_74, kx_wp, kx_step, kx_lI, kx_lL, kx_lA, kx_gl, kx_pI, kx_pL, kx_pR, kx_pA, kx_pV, kx_s1, kx_s2, kx_sl, kx_pre, kx_c2, kx_pl, kx_cmp, kx_oF, kx_eqN, kx_nil, kx_c1, kx_ft, kx_aI, kx_aL, kx_aR, kx_ln, Nat.reduceAdd, Option.toList, List.cons_append, List.nil_append, cf7_1]
                    repeat (simp only [sW_71, sW_76, sW_77, sW_p71, sW_p76, sW_p77, nI_1, t1, t2, t3, t4, t5, pk_us, pk_un, ne_eq, Nat.reduceEqDiff, not_false_eq_true, ks_eq, ks_ss, e3, e6, c2]; try dsimp only [kx_wp, kx_step, kx_lI, kx_lL, kx_lA, kx_gl, kx_pI, kx_pL, kx_pR, kx_pA, kx_pV, kx_s1, kx_s2, kx_sl, kx_pre, kx_c2, kx_pl, kx_cmp, kx_oF, kx_eqN, kx_nil, kx_c1, kx_ft, kx_aI, kx_aL, kx_aR, kx_ln, Nat.reduceAdd, Option.toList, List.cons_append, List.nil_append, cf7_1])
                    all_goals (repeat' apply And.intro)
                    all_goals ((try clear hB hC); first | exact True.intro | exact ⟨_, _, _, rfl, hF⟩ | (simp only [zc12, ze12, zc21, ze21, ze44, eq_true ze66, eq_true ze71, ↓reduceIte] at he; rw [← he]; done) | (rw [← he]; done) | exact ⟨_, _, _, rfl, rfl⟩ | trace_state)
  refine hB bX7_witnessOf_0 _ _ _ _ _ _ _ kX7_witnessOf_0 ?_
  dsimp only [bX7_witnessOf_0, kx_wp, kx_step, kx_lI, kx_lL, kx_lA, kx_gl, kx_pI, kx_pL, kx_pR, kx_pA, kx_pV, kx_s1, kx_s2, kx_sl, kx_pre, kx_c2, kx_pl, kx_cmp, kx_oF, kx_eqN, kx_nil, kx_c1, kx_ft, kx_aI, kx_aL, kx_aR, kx_ln, Nat.reduceAdd, Option.toList, List.cons_append, List.nil_append, cf7_1]
  repeat (simp only [sW_71, sW_76, sW_77, sW_p71, sW_p76, sW_p77, nI_1, t1, t2, t3, t4, t5, pk_us, pk_un, ne_eq, Nat.reduceEqDiff, not_false_eq_true, ks_eq, ks_ss]; try dsimp only [kx_wp, kx_step, kx_lI, kx_lL, kx_lA, kx_gl, kx_pI, kx_pL, kx_pR, kx_pA, kx_pV, kx_s1, kx_s2, kx_sl, kx_pre, kx_c2, kx_pl, kx_cmp, kx_oF, kx_eqN, kx_nil, kx_c1, kx_ft, kx_aI, kx_aL, kx_aR, kx_ln, Nat.reduceAdd, Option.toList, List.cons_append, List.nil_append, cf7_1])
  repeat' apply And.intro
  all_goals try (first | with_reducible assumption | (with_reducible refine ck_nzI ?_; simp; done) | (with_reducible refine ck_nzL ?_; simp; done) | (with_reducible refine vp_in_nI ?_ ?_ <;> first | omega | decide) | (with_reducible refine Nat.le_of_ble_eq_true ?_; rfl) | omega | exact Or.inl trivial | exact Or.inr trivial | exact Or.inl rfl | exact Or.inr rfl)
  exact loop10 _ 0 kk (-1) F X Y none (Nat.zero_add _) h4 rfl


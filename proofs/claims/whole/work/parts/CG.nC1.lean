theorem cR_fx_af {P P2 P3 : kx_P} {S : ck_S} {cl mi se sz : Nat} {bl : Nat → Nat} (h : cR_fx P P2) (h2 : cR_af P2 P3 S cl mi se sz bl) : cR_af P P3 S cl mi se sz bl := by
  obtain ⟨sd, a, b, c, d⟩ := h2
  exact ⟨sd, a, b, c, h.tr d⟩
theorem cR_mns_0 {M : Nat → Int32} {A : Nat → Nat → Int32} {L : Nat → Nat → Int64} {cl : Nat} : ck_mns (M, A, L) cl 0 = (M, A, L) := rfl
def bX10_wait_0 : List kx_O := [(.iload_n 1, 1, 0, 0, .null), (.ifCond .lt 14, 15, 0, 0, .null)]
theorem kX10_wait_0 : kx_oks kxL_X10 false cX10_wait 0 bX10_wait_0 = true := by decide +kernel
def bX10_wait_4 : List kx_O := [(.iload_n 1, 1, 0, 0, .null), (.sipush 10000, 0, 0, 0, .int 10000), (.if_icmp .gt 7, 15, 0, 0, .null)]
theorem kX10_wait_4 : kx_oks kxL_X10 false cX10_wait 4 bX10_wait_4 = true := by decide +kernel
def bX10_wait_11 : List kx_O := [(.iconst 1, 0, 0, 0, .int 1), (.goto 4, 16, 0, 0, .null)]
theorem kX10_wait_11 : kx_oks kxL_X10 false cX10_wait 11 bX10_wait_11 = true := by decide +kernel
def bX10_wait_15 : List kx_O := [(.iconst 0, 0, 0, 0, .int 0)]
theorem kX10_wait_15 : kx_oks kxL_X10 false cX10_wait 15 bX10_wait_15 = true := by decide +kernel
def bX10_wait_19 : List kx_O := [(.aload_n 0, 0, 0, 0, .null), (.getfield 12, 10, 0, 0, .null), (.getfield 129, 0, 0, 0, .null), (.iload_n 1, 1, 0, 0, .null), (.iadd, 0, 0, 0, .null)]
theorem kX10_wait_19 : kx_oks kxL_X10 false cX10_wait 19 bX10_wait_19 = true := by decide +kernel
def bX10_wait_31 : List kx_O := [(.iconst 0, 0, 0, 0, .int 0), (.istore_n 2, 2, 0, 0, .null)]
theorem kX10_wait_31 : kx_oks kxL_X10 false cX10_wait 31 bX10_wait_31 = true := by decide +kernel
def bX10_wait_33 : List kx_O := [(.iload_n 2, 2, 0, 0, .null), (.iload_n 1, 1, 0, 0, .null), (.if_icmp .ge 13, 48, 0, 0, .null)]
theorem kX10_wait_33 : kx_oks kxL_X10 false cX10_wait 33 bX10_wait_33 = true := by decide +kernel
def bX10_wait_38 : List kx_O := [(.aload_n 0, 0, 0, 0, .null)]
theorem kX10_wait_38 : kx_oks kxL_X10 false cX10_wait 38 bX10_wait_38 = true := by decide +kernel
def bX10_wait_42 : List kx_O := [(.iinc 2 1, 2, 0, 0, .int 1), (.goto (-12), 33, 0, 0, .null)]
theorem kX10_wait_42 : kx_oks kxL_X10 false cX10_wait 42 bX10_wait_42 = true := by decide +kernel
def bX10_wait_48 : List kx_O := [(.aload_n 0, 0, 0, 0, .null), (.getfield 12, 10, 0, 0, .null), (.getfield 129, 0, 0, 0, .null), (.ireturn, 0, 0, 0, .null)]
theorem kX10_wait_48 : kx_oks kxL_X10 false cX10_wait 48 bX10_wait_48 = true := by decide +kernel
theorem dX10_wait_16 : decode cX10_wait 16 = .ok (.invokestatic 95, 3) := by decide +kernel
theorem dX10_wait_28 : decode cX10_wait 28 = .ok (.invokestatic 132, 3) := by decide +kernel
theorem dX10_wait_39 : decode cX10_wait 39 = .ok (.invokevirtual 135, 3) := by decide +kernel
set_option maxRecDepth 100000 in
set_option maxHeartbeats 4000000 in
theorem ct_X10_wait_t (l : Launch) (G : kx_G) {P : kx_P} {sz : Nat} {M : Nat → Int32} {A : Nat → Nat → Int32} {L : Nat → Nat → Int64} {cl mi sd se : Nat} {bl : Nat → Nat} (hst : cR_st P M A cl se bl) (hdy : cR_dy P A L cl se sz bl (fun _ => mi)) (hm : cR_m M A L cl mi sd) {m : Nat} (hm1 : m ≤ 10000) (hm2 : mi + m ≤ 100000)  : kx_Mn l G sX10_wait 9 0 0 [.ref 64, .int (nI m)] P sz (fun r P2 s2 => r = some (.int (nI (mi + m))) ∧ s2 = sz ∧ cR_af P P2 (ck_mns (M, A, L) cl m) cl (mi + m) se sz bl) := by
  have hcl : cl ≤ 8 := hm.2.2.1
  have hA0 : cR_af P P (ck_mns (M, A, L) cl 0) cl mi se sz bl := ⟨sd, hm, hst, hdy, cR_fx.rf P⟩
  have hms : ∀ k, ck_mns (M, A, L) cl (k + 1) = ck_mn (ck_mns (M, A, L) cl k) cl := fun _ => rfl
  have hadd : (0 : Nat) + m = m := Nat.zero_add m
  refine kx_mkn kx_tab kxLok_X10 (ini := false) [some (.ref 64), some (.int (nI m)), none] ⟨by decide, rfl, by decide, by decide⟩ (fun _ _ _ h => ⟨_, h.1⟩) rfl rfl (fun g hB hC hN => ?_)
  have loop33 : ∀ (n9 : Nat) (k : Nat) (P2 : kx_P), k + n9 = m → cR_af P P2 (ck_mns (M, A, L) cl k) cl (mi + k) se sz bl → g 33 [some (.ref 64), some (.int (nI m)), some (.int (nI k))] [] P2 sz 0 0 := by
    intro n9
    induction n9 with
    | zero =>
      intro k P2 hk hA9
      · obtain rfl : k = m := by omega
        obtain ⟨sd9, hm9, hst9, hdy9, hfx9⟩ := id hA9
        obtain ⟨⟨K, h64, -, -, hK7, -, -⟩, ⟨Al, h65, al0, -, -⟩, -⟩ := id hst9
        rw [hm9.2.2.2.1] at al0
        refine hB bX10_wait_33 _ _ _ _ _ _ _ kX10_wait_33 ?_
        dsimp only [bX10_wait_33, kx_wp, kx_step, kx_lI, kx_lL, kx_lA, kx_gl, kx_pI, kx_pL, kx_pR, kx_pA, kx_pV, kx_s1, kx_s2, kx_sl, kx_pre, kx_c2, kx_pl, kx_cmp, kx_oF, kx_eqN, kx_nil, kx_c1, kx_ft, kx_aI, kx_aL, kx_aR, kx_ln, Nat.reduceAdd, Option.toList, List.cons_append, List.nil_append, cf10_0, cf0_0]
        repeat (simp only [h64, h65, nI_1, nI_add, ks_eq, ks_ss, al0]; try dsimp only [kx_wp, kx_step, kx_lI, kx_lL, kx_lA, kx_gl, kx_pI, kx_pL, kx_pR, kx_pA, kx_pV, kx_s1, kx_s2, kx_sl, kx_pre, kx_c2, kx_pl, kx_cmp, kx_oF, kx_eqN, kx_nil, kx_c1, kx_ft, kx_aI, kx_aL, kx_aR, kx_ln, Nat.reduceAdd, Option.toList, List.cons_append, List.nil_append, cf10_0, cf0_0])
        repeat' apply And.intro
        all_goals try (first | with_reducible assumption | (with_reducible refine ck_nzI ?_; simp; done) | (with_reducible refine ck_nzL ?_; simp; done) | (with_reducible refine vp_in_nI ?_ ?_ <;> first | omega | decide) | (with_reducible refine Nat.le_of_ble_eq_true ?_; rfl) | omega | exact Or.inl trivial | exact Or.inr trivial | exact Or.inl rfl | exact Or.inr rfl)
        · intro zc35
          with_reducible first | have ze35 := Int32.not_lt.mpr zc35 | have ze35 := zc35
          refine hB bX10_wait_48 _ _ _ _ _ _ _ kX10_wait_48 ?_
          dsimp only [bX10_wait_48, kx_wp, kx_step, kx_lI, kx_lL, kx_lA, kx_gl, kx_pI, kx_pL, kx_pR, kx_pA, kx_pV, kx_s1, kx_s2, kx_sl, kx_pre, kx_c2, kx_pl, kx_cmp, kx_oF, kx_eqN, kx_nil, kx_c1, kx_ft, kx_aI, kx_aL, kx_aR, kx_ln, Nat.reduceAdd, Option.toList, List.cons_append, List.nil_append, cf10_0, cf0_0]
          repeat (simp only [h64, h65, nI_1, nI_add, ks_eq, ks_ss, al0]; try dsimp only [kx_wp, kx_step, kx_lI, kx_lL, kx_lA, kx_gl, kx_pI, kx_pL, kx_pR, kx_pA, kx_pV, kx_s1, kx_s2, kx_sl, kx_pre, kx_c2, kx_pl, kx_cmp, kx_oF, kx_eqN, kx_nil, kx_c1, kx_ft, kx_aI, kx_aL, kx_aR, kx_ln, Nat.reduceAdd, Option.toList, List.cons_append, List.nil_append, cf10_0, cf0_0])
          all_goals (repeat' apply And.intro)
          all_goals ((try clear hB hC hN); first | exact True.intro | rfl | exact hA9 | decide)
        · intro zc35
          first | exact absurd rfl zc35 | exact absurd zc35 (by decide) | exact absurd (by decide) zc35 | (exfalso; first | exact absurd ((nI_ltI (a := m) (b := 0) (by omega) (by omega)).mp zc1) (by omega) | exact absurd ((nI_leI (a := m) (b := 10000) (by omega) (by omega)).mpr (by omega)) zc8 | exact absurd ((nI_ltI (a := 10000) (b := m) (by omega) (by omega)).mp zc8) (by omega) | exact absurd zc16 (by decide) | exact absurd ((nI_leI (a := m) (b := k) (by omega) (by omega)).mp zc35) (by omega) | exact absurd ((nI_leI (a := m) (b := k) (by omega) (by omega)).mpr (by omega)) zc35) | (exfalso; simp_all; done)
    | succ n9 ih =>
      intro k P2 hk hA9
      · have hk2 : k < m := by omega
        obtain ⟨sd9, hm9, hst9, hdy9, hfx9⟩ := id hA9
        obtain ⟨⟨K, h64, -, -, hK7, -, -⟩, ⟨Al, h65, al0, -, -⟩, -⟩ := id hst9
        rw [hm9.2.2.2.1] at al0
        have hp9 := ct_X10_passMinute l G (P := P2) (sz := sz) hst9 hdy9 hm9 (by omega)
        refine hB bX10_wait_33 _ _ _ _ _ _ _ kX10_wait_33 ?_
        dsimp only [bX10_wait_33, kx_wp, kx_step, kx_lI, kx_lL, kx_lA, kx_gl, kx_pI, kx_pL, kx_pR, kx_pA, kx_pV, kx_s1, kx_s2, kx_sl, kx_pre, kx_c2, kx_pl, kx_cmp, kx_oF, kx_eqN, kx_nil, kx_c1, kx_ft, kx_aI, kx_aL, kx_aR, kx_ln, Nat.reduceAdd, Option.toList, List.cons_append, List.nil_append, cf10_0, cf0_0]
        repeat (simp only [h64, h65, nI_1, nI_add, ks_eq, ks_ss]; try dsimp only [kx_wp, kx_step, kx_lI, kx_lL, kx_lA, kx_gl, kx_pI, kx_pL, kx_pR, kx_pA, kx_pV, kx_s1, kx_s2, kx_sl, kx_pre, kx_c2, kx_pl, kx_cmp, kx_oF, kx_eqN, kx_nil, kx_c1, kx_ft, kx_aI, kx_aL, kx_aR, kx_ln, Nat.reduceAdd, Option.toList, List.cons_append, List.nil_append, cf10_0, cf0_0])
        repeat' apply And.intro
        all_goals try (first | with_reducible assumption | (with_reducible refine ck_nzI ?_; simp; done) | (with_reducible refine ck_nzL ?_; simp; done) | (with_reducible refine vp_in_nI ?_ ?_ <;> first | omega | decide) | (with_reducible refine Nat.le_of_ble_eq_true ?_; rfl) | omega | exact Or.inl trivial | exact Or.inr trivial | exact Or.inl rfl | exact Or.inr rfl)
        · intro zc35
          first | exact absurd rfl zc35 | exact absurd zc35 (by decide) | exact absurd (by decide) zc35 | (exfalso; first | exact absurd ((nI_ltI (a := m) (b := 0) (by omega) (by omega)).mp zc1) (by omega) | exact absurd ((nI_leI (a := m) (b := 10000) (by omega) (by omega)).mpr (by omega)) zc8 | exact absurd ((nI_ltI (a := 10000) (b := m) (by omega) (by omega)).mp zc8) (by omega) | exact absurd zc16 (by decide) | exact absurd ((nI_leI (a := m) (b := k) (by omega) (by omega)).mp zc35) (by omega) | exact absurd ((nI_leI (a := m) (b := k) (by omega) (by omega)).mpr (by omega)) zc35) | (exfalso; simp_all; done)
        · intro zc35
          with_reducible first | have ze35 := Int32.not_le.mp zc35 | have ze35 := zc35
          refine hB bX10_wait_38 _ _ _ _ _ _ _ kX10_wait_38 ?_
          dsimp only [bX10_wait_38, kx_wp, kx_step, kx_lI, kx_lL, kx_lA, kx_gl, kx_pI, kx_pL, kx_pR, kx_pA, kx_pV, kx_s1, kx_s2, kx_sl, kx_pre, kx_c2, kx_pl, kx_cmp, kx_oF, kx_eqN, kx_nil, kx_c1, kx_ft, kx_aI, kx_aL, kx_aR, kx_ln, Nat.reduceAdd, Option.toList, List.cons_append, List.nil_append, cf10_0, cf0_0]
          repeat (simp only [h64, h65, nI_1, nI_add, ks_eq, ks_ss]; try dsimp only [kx_wp, kx_step, kx_lI, kx_lL, kx_lA, kx_gl, kx_pI, kx_pL, kx_pR, kx_pA, kx_pV, kx_s1, kx_s2, kx_sl, kx_pre, kx_c2, kx_pl, kx_cmp, kx_oF, kx_eqN, kx_nil, kx_c1, kx_ft, kx_aI, kx_aL, kx_aR, kx_ln, Nat.reduceAdd, Option.toList, List.cons_append, List.nil_append, cf10_0, cf0_0])
          repeat' apply And.intro
          all_goals try (first | with_reducible assumption | (with_reducible refine ck_nzI ?_; simp; done) | (with_reducible refine ck_nzL ?_; simp; done) | (with_reducible refine vp_in_nI ?_ ?_ <;> first | omega | decide) | (with_reducible refine Nat.le_of_ble_eq_true ?_; rfl) | omega | exact Or.inl trivial | exact Or.inr trivial | exact Or.inl rfl | exact Or.inr rfl)
          refine hN.1 135 _ _ _ _ _ _ _ 10 _ _ _ _ _ _ _ _ _ _ lX10_135 (hp9) ⟨by decide, rfl⟩ (h64) rfl rfl (Nat.le_of_ble_eq_true rfl) (by omega) (by decide) (by omega) (by omega) dX10_wait_39 ?_
          rintro r2 P3 s3 ⟨rfl, rfl, hnext⟩
          rw [← hms, Nat.add_assoc] at hnext
          dsimp only [Option.toList, List.cons_append, List.nil_append]
          refine hB bX10_wait_42 _ _ _ _ _ _ _ kX10_wait_42 ?_
          dsimp only [bX10_wait_42, kx_wp, kx_step, kx_lI, kx_lL, kx_lA, kx_gl, kx_pI, kx_pL, kx_pR, kx_pA, kx_pV, kx_s1, kx_s2, kx_sl, kx_pre, kx_c2, kx_pl, kx_cmp, kx_oF, kx_eqN, kx_nil, kx_c1, kx_ft, kx_aI, kx_aL, kx_aR, kx_ln, Nat.reduceAdd, Option.toList, List.cons_append, List.nil_append, cf10_0, cf0_0]
          repeat (simp only [h64, h65, nI_1, nI_add, ks_eq, ks_ss]; try dsimp only [kx_wp, kx_step, kx_lI, kx_lL, kx_lA, kx_gl, kx_pI, kx_pL, kx_pR, kx_pA, kx_pV, kx_s1, kx_s2, kx_sl, kx_pre, kx_c2, kx_pl, kx_cmp, kx_oF, kx_eqN, kx_nil, kx_c1, kx_ft, kx_aI, kx_aL, kx_aR, kx_ln, Nat.reduceAdd, Option.toList, List.cons_append, List.nil_append, cf10_0, cf0_0])
          repeat' apply And.intro
          all_goals try (first | with_reducible assumption | (with_reducible refine ck_nzI ?_; simp; done) | (with_reducible refine ck_nzL ?_; simp; done) | (with_reducible refine vp_in_nI ?_ ?_ <;> first | omega | decide) | (with_reducible refine Nat.le_of_ble_eq_true ?_; rfl) | omega | exact Or.inl trivial | exact Or.inr trivial | exact Or.inl rfl | exact Or.inr rfl)
          exact ih (k + 1) _ (by omega) (cR_fx_af hfx9 hnext)
  obtain ⟨⟨K, h64, -, -, hK7, -, -⟩, ⟨Al, h65, al0, -, -⟩, -⟩ := id hst
  rw [hm.2.2.2.1] at al0
  refine hB bX10_wait_0 _ _ _ _ _ _ _ kX10_wait_0 ?_
  dsimp only [bX10_wait_0, kx_wp, kx_step, kx_lI, kx_lL, kx_lA, kx_gl, kx_pI, kx_pL, kx_pR, kx_pA, kx_pV, kx_s1, kx_s2, kx_sl, kx_pre, kx_c2, kx_pl, kx_cmp, kx_oF, kx_eqN, kx_nil, kx_c1, kx_ft, kx_aI, kx_aL, kx_aR, kx_ln, Nat.reduceAdd, Option.toList, List.cons_append, List.nil_append, cf10_0, cf0_0]
  repeat (simp only [h64, h65, nI_1, nI_add, ks_eq, ks_ss]; try dsimp only [kx_wp, kx_step, kx_lI, kx_lL, kx_lA, kx_gl, kx_pI, kx_pL, kx_pR, kx_pA, kx_pV, kx_s1, kx_s2, kx_sl, kx_pre, kx_c2, kx_pl, kx_cmp, kx_oF, kx_eqN, kx_nil, kx_c1, kx_ft, kx_aI, kx_aL, kx_aR, kx_ln, Nat.reduceAdd, Option.toList, List.cons_append, List.nil_append, cf10_0, cf0_0])
  repeat' apply And.intro
  all_goals try (first | with_reducible assumption | (with_reducible refine ck_nzI ?_; simp; done) | (with_reducible refine ck_nzL ?_; simp; done) | (with_reducible refine vp_in_nI ?_ ?_ <;> first | omega | decide) | (with_reducible refine Nat.le_of_ble_eq_true ?_; rfl) | omega | exact Or.inl trivial | exact Or.inr trivial | exact Or.inl rfl | exact Or.inr rfl)
  · intro zc1
    first | exact absurd rfl zc1 | exact absurd zc1 (by decide) | exact absurd (by decide) zc1 | (exfalso; first | exact absurd ((nI_ltI (a := m) (b := 0) (by omega) (by omega)).mp zc1) (by omega) | exact absurd ((nI_leI (a := m) (b := 10000) (by omega) (by omega)).mpr (by omega)) zc8 | exact absurd ((nI_ltI (a := 10000) (b := m) (by omega) (by omega)).mp zc8) (by omega) | exact absurd zc16 (by decide) | exact absurd ((nI_leI (a := m) (b := k) (by omega) (by omega)).mp zc35) (by omega) | exact absurd ((nI_leI (a := m) (b := k) (by omega) (by omega)).mpr (by omega)) zc35) | (exfalso; simp_all; done)
  · intro zc1
    with_reducible first | have ze1 := Int32.not_lt.mp zc1 | have ze1 := zc1
    refine hB bX10_wait_4 _ _ _ _ _ _ _ kX10_wait_4 ?_
    dsimp only [bX10_wait_4, kx_wp, kx_step, kx_lI, kx_lL, kx_lA, kx_gl, kx_pI, kx_pL, kx_pR, kx_pA, kx_pV, kx_s1, kx_s2, kx_sl, kx_pre, kx_c2, kx_pl, kx_cmp, kx_oF, kx_eqN, kx_nil, kx_c1, kx_ft, kx_aI, kx_aL, kx_aR, kx_ln, Nat.reduceAdd, Option.toList, List.cons_append, List.nil_append, cf10_0, cf0_0]
    repeat (simp only [h64, h65, nI_1, nI_add, ks_eq, ks_ss]; try dsimp only [kx_wp, kx_step, kx_lI, kx_lL, kx_lA, kx_gl, kx_pI, kx_pL, kx_pR, kx_pA, kx_pV, kx_s1, kx_s2, kx_sl, kx_pre, kx_c2, kx_pl, kx_cmp, kx_oF, kx_eqN, kx_nil, kx_c1, kx_ft, kx_aI, kx_aL, kx_aR, kx_ln, Nat.reduceAdd, Option.toList, List.cons_append, List.nil_append, cf10_0, cf0_0])
    repeat' apply And.intro
    all_goals try (first | with_reducible assumption | (with_reducible refine ck_nzI ?_; simp; done) | (with_reducible refine ck_nzL ?_; simp; done) | (with_reducible refine vp_in_nI ?_ ?_ <;> first | omega | decide) | (with_reducible refine Nat.le_of_ble_eq_true ?_; rfl) | omega | exact Or.inl trivial | exact Or.inr trivial | exact Or.inl rfl | exact Or.inr rfl)
    · intro zc8
      first | exact absurd rfl zc8 | exact absurd zc8 (by decide) | exact absurd (by decide) zc8 | (exfalso; first | exact absurd ((nI_ltI (a := m) (b := 0) (by omega) (by omega)).mp zc1) (by omega) | exact absurd ((nI_leI (a := m) (b := 10000) (by omega) (by omega)).mpr (by omega)) zc8 | exact absurd ((nI_ltI (a := 10000) (b := m) (by omega) (by omega)).mp zc8) (by omega) | exact absurd zc16 (by decide) | exact absurd ((nI_leI (a := m) (b := k) (by omega) (by omega)).mp zc35) (by omega) | exact absurd ((nI_leI (a := m) (b := k) (by omega) (by omega)).mpr (by omega)) zc35) | (exfalso; simp_all; done)
    · intro zc8
      with_reducible first | have ze8 := Int32.not_lt.mp zc8 | have ze8 := zc8
      refine hB bX10_wait_11 _ _ _ _ _ _ _ kX10_wait_11 ?_
      dsimp only [bX10_wait_11, kx_wp, kx_step, kx_lI, kx_lL, kx_lA, kx_gl, kx_pI, kx_pL, kx_pR, kx_pA, kx_pV, kx_s1, kx_s2, kx_sl, kx_pre, kx_c2, kx_pl, kx_cmp, kx_oF, kx_eqN, kx_nil, kx_c1, kx_ft, kx_aI, kx_aL, kx_aR, kx_ln, Nat.reduceAdd, Option.toList, List.cons_append, List.nil_append, cf10_0, cf0_0]
      repeat (simp only [h64, h65, nI_1, nI_add, ks_eq, ks_ss]; try dsimp only [kx_wp, kx_step, kx_lI, kx_lL, kx_lA, kx_gl, kx_pI, kx_pL, kx_pR, kx_pA, kx_pV, kx_s1, kx_s2, kx_sl, kx_pre, kx_c2, kx_pl, kx_cmp, kx_oF, kx_eqN, kx_nil, kx_c1, kx_ft, kx_aI, kx_aL, kx_aR, kx_ln, Nat.reduceAdd, Option.toList, List.cons_append, List.nil_append, cf10_0, cf0_0])
      repeat' apply And.intro
      all_goals try (first | with_reducible assumption | (with_reducible refine ck_nzI ?_; simp; done) | (with_reducible refine ck_nzL ?_; simp; done) | (with_reducible refine vp_in_nI ?_ ?_ <;> first | omega | decide) | (with_reducible refine Nat.le_of_ble_eq_true ?_; rfl) | omega | exact Or.inl trivial | exact Or.inr trivial | exact Or.inl rfl | exact Or.inr rfl)
      refine hC.2.1 95 _ _ _ _ _ _ _ _ _ _ _ _ _ _ _ _ _ lX10_95 (ct_X10_need l G (b := 1) (by decide)) rfl rfl (Nat.le_of_ble_eq_true rfl) (by first | decide | omega) (by decide) (by omega) (by omega) dX10_wait_16 ?_
      refine hB bX10_wait_19 _ _ _ _ _ _ _ kX10_wait_19 ?_
      dsimp only [bX10_wait_19, kx_wp, kx_step, kx_lI, kx_lL, kx_lA, kx_gl, kx_pI, kx_pL, kx_pR, kx_pA, kx_pV, kx_s1, kx_s2, kx_sl, kx_pre, kx_c2, kx_pl, kx_cmp, kx_oF, kx_eqN, kx_nil, kx_c1, kx_ft, kx_aI, kx_aL, kx_aR, kx_ln, Nat.reduceAdd, Option.toList, List.cons_append, List.nil_append, cf10_0, cf0_0]
      repeat (simp only [h64, h65, nI_1, nI_add, ks_eq, ks_ss, al0]; try dsimp only [kx_wp, kx_step, kx_lI, kx_lL, kx_lA, kx_gl, kx_pI, kx_pL, kx_pR, kx_pA, kx_pV, kx_s1, kx_s2, kx_sl, kx_pre, kx_c2, kx_pl, kx_cmp, kx_oF, kx_eqN, kx_nil, kx_c1, kx_ft, kx_aI, kx_aL, kx_aR, kx_ln, Nat.reduceAdd, Option.toList, List.cons_append, List.nil_append, cf10_0, cf0_0])
      repeat' apply And.intro
      all_goals try (first | with_reducible assumption | (with_reducible refine ck_nzI ?_; simp; done) | (with_reducible refine ck_nzL ?_; simp; done) | (with_reducible refine vp_in_nI ?_ ?_ <;> first | omega | decide) | (with_reducible refine Nat.le_of_ble_eq_true ?_; rfl) | omega | exact Or.inl trivial | exact Or.inr trivial | exact Or.inl rfl | exact Or.inr rfl)
      refine hC.2.1 132 _ _ _ _ _ _ _ _ _ _ _ _ _ _ _ _ _ lX10_132 (ct_X10_needMinute l G (m := nI (mi + m)) ((nI_leI (a := mi + m) (b := 100000) (by omega) (by omega)).mpr hm2)) rfl rfl (Nat.le_of_ble_eq_true rfl) (by first | decide | omega) (by decide) (by omega) (by omega) dX10_wait_28 ?_
      refine hB bX10_wait_31 _ _ _ _ _ _ _ kX10_wait_31 ?_
      dsimp only [bX10_wait_31, kx_wp, kx_step, kx_lI, kx_lL, kx_lA, kx_gl, kx_pI, kx_pL, kx_pR, kx_pA, kx_pV, kx_s1, kx_s2, kx_sl, kx_pre, kx_c2, kx_pl, kx_cmp, kx_oF, kx_eqN, kx_nil, kx_c1, kx_ft, kx_aI, kx_aL, kx_aR, kx_ln, Nat.reduceAdd, Option.toList, List.cons_append, List.nil_append, cf10_0, cf0_0]
      repeat (simp only [h64, h65, nI_1, nI_add, ks_eq, ks_ss]; try dsimp only [kx_wp, kx_step, kx_lI, kx_lL, kx_lA, kx_gl, kx_pI, kx_pL, kx_pR, kx_pA, kx_pV, kx_s1, kx_s2, kx_sl, kx_pre, kx_c2, kx_pl, kx_cmp, kx_oF, kx_eqN, kx_nil, kx_c1, kx_ft, kx_aI, kx_aL, kx_aR, kx_ln, Nat.reduceAdd, Option.toList, List.cons_append, List.nil_append, cf10_0, cf0_0])
      repeat' apply And.intro
      all_goals try (first | with_reducible assumption | (with_reducible refine ck_nzI ?_; simp; done) | (with_reducible refine ck_nzL ?_; simp; done) | (with_reducible refine vp_in_nI ?_ ?_ <;> first | omega | decide) | (with_reducible refine Nat.le_of_ble_eq_true ?_; rfl) | omega | exact Or.inl trivial | exact Or.inr trivial | exact Or.inl rfl | exact Or.inr rfl)
      exact loop33 m 0 P (by omega) hA0

set_option maxRecDepth 100000 in
set_option maxHeartbeats 4000000 in
theorem ct_X10_wait_b (l : Launch) (G : kx_G) (hst : l.stackTraces = false) {P : kx_P} {sz : Nat} {sv : Value} {K : Nat → Int32} (h64 : P 64 = kO 10 (kf (cr10 sv) K)) {m : Int32} (hm : ¬ (0 ≤ m ∧ m ≤ 10000))  : kx_X l G sX10_wait 7 [.ref 64, .int (m)] P sz "java/lang/IllegalArgumentException" := by
  refine kx_mkx hst kx_tab kxLok_X10 [some (.ref 64), some (.int (m)), none] ⟨by decide, rfl, by decide⟩ rfl rfl (fun g hB hC hX hT => ?_)
  refine hB bX10_wait_0 _ _ _ _ _ _ _ kX10_wait_0 ?_
  dsimp only [bX10_wait_0, kx_wp, kx_step, kx_lI, kx_lL, kx_lA, kx_gl, kx_pI, kx_pL, kx_pR, kx_pA, kx_pV, kx_s1, kx_s2, kx_sl, kx_pre, kx_c2, kx_pl, kx_cmp, kx_oF, kx_eqN, kx_nil, kx_c1, kx_ft, kx_aI, kx_aL, kx_aR, kx_ln, Nat.reduceAdd, Option.toList, List.cons_append, List.nil_append, cf10_0, cf0_0]
  repeat (simp only [h64, ks_eq, ks_ss]; try dsimp only [kx_wp, kx_step, kx_lI, kx_lL, kx_lA, kx_gl, kx_pI, kx_pL, kx_pR, kx_pA, kx_pV, kx_s1, kx_s2, kx_sl, kx_pre, kx_c2, kx_pl, kx_cmp, kx_oF, kx_eqN, kx_nil, kx_c1, kx_ft, kx_aI, kx_aL, kx_aR, kx_ln, Nat.reduceAdd, Option.toList, List.cons_append, List.nil_append, cf10_0, cf0_0])
  repeat' apply And.intro
  all_goals try (first | with_reducible assumption | (with_reducible refine ck_nzI ?_; simp; done) | (with_reducible refine ck_nzL ?_; simp; done) | (with_reducible refine vp_in_nI ?_ ?_ <;> first | omega | decide) | (with_reducible refine Nat.le_of_ble_eq_true ?_; rfl) | omega | exact Or.inl trivial | exact Or.inr trivial | exact Or.inl rfl | exact Or.inr rfl)
  · intro zc1
    with_reducible first | have ze1 := Int32.not_le.mpr zc1 | have ze1 := zc1
    refine hB bX10_wait_15 _ _ _ _ _ _ _ kX10_wait_15 ?_
    dsimp only [bX10_wait_15, kx_wp, kx_step, kx_lI, kx_lL, kx_lA, kx_gl, kx_pI, kx_pL, kx_pR, kx_pA, kx_pV, kx_s1, kx_s2, kx_sl, kx_pre, kx_c2, kx_pl, kx_cmp, kx_oF, kx_eqN, kx_nil, kx_c1, kx_ft, kx_aI, kx_aL, kx_aR, kx_ln, Nat.reduceAdd, Option.toList, List.cons_append, List.nil_append, cf10_0, cf0_0]
    repeat (simp only [h64, ks_eq, ks_ss]; try dsimp only [kx_wp, kx_step, kx_lI, kx_lL, kx_lA, kx_gl, kx_pI, kx_pL, kx_pR, kx_pA, kx_pV, kx_s1, kx_s2, kx_sl, kx_pre, kx_c2, kx_pl, kx_cmp, kx_oF, kx_eqN, kx_nil, kx_c1, kx_ft, kx_aI, kx_aL, kx_aR, kx_ln, Nat.reduceAdd, Option.toList, List.cons_append, List.nil_append, cf10_0, cf0_0])
    repeat' apply And.intro
    all_goals try (first | with_reducible assumption | (with_reducible refine ck_nzI ?_; simp; done) | (with_reducible refine ck_nzL ?_; simp; done) | (with_reducible refine vp_in_nI ?_ ?_ <;> first | omega | decide) | (with_reducible refine Nat.le_of_ble_eq_true ?_; rfl) | omega | exact Or.inl trivial | exact Or.inr trivial | exact Or.inl rfl | exact Or.inr rfl)
    exact hX.2 95 _ _ _ _ _ _ _ _ lX10_95 (ct_X10_need_x l G hst) rfl rfl (Nat.le_of_ble_eq_true rfl) (by first | decide | omega) (by decide) dX10_wait_16
  · intro zc1
    with_reducible first | have ze1 := Int32.not_lt.mp zc1 | have ze1 := zc1
    refine hB bX10_wait_4 _ _ _ _ _ _ _ kX10_wait_4 ?_
    dsimp only [bX10_wait_4, kx_wp, kx_step, kx_lI, kx_lL, kx_lA, kx_gl, kx_pI, kx_pL, kx_pR, kx_pA, kx_pV, kx_s1, kx_s2, kx_sl, kx_pre, kx_c2, kx_pl, kx_cmp, kx_oF, kx_eqN, kx_nil, kx_c1, kx_ft, kx_aI, kx_aL, kx_aR, kx_ln, Nat.reduceAdd, Option.toList, List.cons_append, List.nil_append, cf10_0, cf0_0]
    repeat (simp only [h64, ks_eq, ks_ss]; try dsimp only [kx_wp, kx_step, kx_lI, kx_lL, kx_lA, kx_gl, kx_pI, kx_pL, kx_pR, kx_pA, kx_pV, kx_s1, kx_s2, kx_sl, kx_pre, kx_c2, kx_pl, kx_cmp, kx_oF, kx_eqN, kx_nil, kx_c1, kx_ft, kx_aI, kx_aL, kx_aR, kx_ln, Nat.reduceAdd, Option.toList, List.cons_append, List.nil_append, cf10_0, cf0_0])
    repeat' apply And.intro
    all_goals try (first | with_reducible assumption | (with_reducible refine ck_nzI ?_; simp; done) | (with_reducible refine ck_nzL ?_; simp; done) | (with_reducible refine vp_in_nI ?_ ?_ <;> first | omega | decide) | (with_reducible refine Nat.le_of_ble_eq_true ?_; rfl) | omega | exact Or.inl trivial | exact Or.inr trivial | exact Or.inl rfl | exact Or.inr rfl)
    · intro zc8
      with_reducible first | have ze8 := Int32.not_le.mpr zc8 | have ze8 := zc8
      refine hB bX10_wait_15 _ _ _ _ _ _ _ kX10_wait_15 ?_
      dsimp only [bX10_wait_15, kx_wp, kx_step, kx_lI, kx_lL, kx_lA, kx_gl, kx_pI, kx_pL, kx_pR, kx_pA, kx_pV, kx_s1, kx_s2, kx_sl, kx_pre, kx_c2, kx_pl, kx_cmp, kx_oF, kx_eqN, kx_nil, kx_c1, kx_ft, kx_aI, kx_aL, kx_aR, kx_ln, Nat.reduceAdd, Option.toList, List.cons_append, List.nil_append, cf10_0, cf0_0]
      repeat (simp only [h64, ks_eq, ks_ss]; try dsimp only [kx_wp, kx_step, kx_lI, kx_lL, kx_lA, kx_gl, kx_pI, kx_pL, kx_pR, kx_pA, kx_pV, kx_s1, kx_s2, kx_sl, kx_pre, kx_c2, kx_pl, kx_cmp, kx_oF, kx_eqN, kx_nil, kx_c1, kx_ft, kx_aI, kx_aL, kx_aR, kx_ln, Nat.reduceAdd, Option.toList, List.cons_append, List.nil_append, cf10_0, cf0_0])
      repeat' apply And.intro
      all_goals try (first | with_reducible assumption | (with_reducible refine ck_nzI ?_; simp; done) | (with_reducible refine ck_nzL ?_; simp; done) | (with_reducible refine vp_in_nI ?_ ?_ <;> first | omega | decide) | (with_reducible refine Nat.le_of_ble_eq_true ?_; rfl) | omega | exact Or.inl trivial | exact Or.inr trivial | exact Or.inl rfl | exact Or.inr rfl)
      exact hX.2 95 _ _ _ _ _ _ _ _ lX10_95 (ct_X10_need_x l G hst) rfl rfl (Nat.le_of_ble_eq_true rfl) (by first | decide | omega) (by decide) dX10_wait_16
    · intro zc8
      with_reducible first | have ze8 := Int32.not_lt.mp zc8 | have ze8 := zc8
      exact absurd ⟨ze1, ze8⟩ hm

set_option maxRecDepth 100000 in
set_option maxHeartbeats 4000000 in
theorem ct_X10_wait_l (l : Launch) (G : kx_G) (hst : l.stackTraces = false) {P : kx_P} {sz : Nat} {sv : Value} {K : Nat → Int32} (h64 : P 64 = kO 10 (kf (cr10 sv) K)) {Al : Nat → Int32} (hA : P 65 = kO 0 (kf cr0 Al)) {m : Int32} (hm1 : 0 ≤ m) (hm2 : m ≤ 10000) (hm : ¬ Al 0 + m ≤ 100000)  : kx_X l G sX10_wait 7 [.ref 64, .int (m)] P sz "java/lang/IllegalStateException" := by
  refine kx_mkx hst kx_tab kxLok_X10 [some (.ref 64), some (.int (m)), none] ⟨by decide, rfl, by decide⟩ rfl rfl (fun g hB hC hX hT => ?_)
  refine hB bX10_wait_0 _ _ _ _ _ _ _ kX10_wait_0 ?_
  dsimp only [bX10_wait_0, kx_wp, kx_step, kx_lI, kx_lL, kx_lA, kx_gl, kx_pI, kx_pL, kx_pR, kx_pA, kx_pV, kx_s1, kx_s2, kx_sl, kx_pre, kx_c2, kx_pl, kx_cmp, kx_oF, kx_eqN, kx_nil, kx_c1, kx_ft, kx_aI, kx_aL, kx_aR, kx_ln, Nat.reduceAdd, Option.toList, List.cons_append, List.nil_append, cf10_0, cf0_0]
  repeat (simp only [h64, hA, ks_eq, ks_ss]; try dsimp only [kx_wp, kx_step, kx_lI, kx_lL, kx_lA, kx_gl, kx_pI, kx_pL, kx_pR, kx_pA, kx_pV, kx_s1, kx_s2, kx_sl, kx_pre, kx_c2, kx_pl, kx_cmp, kx_oF, kx_eqN, kx_nil, kx_c1, kx_ft, kx_aI, kx_aL, kx_aR, kx_ln, Nat.reduceAdd, Option.toList, List.cons_append, List.nil_append, cf10_0, cf0_0])
  repeat' apply And.intro
  all_goals try (first | with_reducible assumption | (with_reducible refine ck_nzI ?_; simp; done) | (with_reducible refine ck_nzL ?_; simp; done) | (with_reducible refine vp_in_nI ?_ ?_ <;> first | omega | decide) | (with_reducible refine Nat.le_of_ble_eq_true ?_; rfl) | omega | exact Or.inl trivial | exact Or.inr trivial | exact Or.inl rfl | exact Or.inr rfl)
  · intro zc1
    first | exact absurd rfl zc1 | exact absurd zc1 (by decide) | exact absurd (by decide) zc1 | (exfalso; first | exact absurd hm1 (Int32.not_le.mpr zc1) | exact absurd hm2 (Int32.not_le.mpr zc8)) | (exfalso; simp_all; done)
  · intro zc1
    with_reducible first | have ze1 := Int32.not_lt.mp zc1 | have ze1 := zc1
    refine hB bX10_wait_4 _ _ _ _ _ _ _ kX10_wait_4 ?_
    dsimp only [bX10_wait_4, kx_wp, kx_step, kx_lI, kx_lL, kx_lA, kx_gl, kx_pI, kx_pL, kx_pR, kx_pA, kx_pV, kx_s1, kx_s2, kx_sl, kx_pre, kx_c2, kx_pl, kx_cmp, kx_oF, kx_eqN, kx_nil, kx_c1, kx_ft, kx_aI, kx_aL, kx_aR, kx_ln, Nat.reduceAdd, Option.toList, List.cons_append, List.nil_append, cf10_0, cf0_0]
    repeat (simp only [h64, hA, ks_eq, ks_ss]; try dsimp only [kx_wp, kx_step, kx_lI, kx_lL, kx_lA, kx_gl, kx_pI, kx_pL, kx_pR, kx_pA, kx_pV, kx_s1, kx_s2, kx_sl, kx_pre, kx_c2, kx_pl, kx_cmp, kx_oF, kx_eqN, kx_nil, kx_c1, kx_ft, kx_aI, kx_aL, kx_aR, kx_ln, Nat.reduceAdd, Option.toList, List.cons_append, List.nil_append, cf10_0, cf0_0])
    repeat' apply And.intro
    all_goals try (first | with_reducible assumption | (with_reducible refine ck_nzI ?_; simp; done) | (with_reducible refine ck_nzL ?_; simp; done) | (with_reducible refine vp_in_nI ?_ ?_ <;> first | omega | decide) | (with_reducible refine Nat.le_of_ble_eq_true ?_; rfl) | omega | exact Or.inl trivial | exact Or.inr trivial | exact Or.inl rfl | exact Or.inr rfl)
    · intro zc8
      first | exact absurd rfl zc8 | exact absurd zc8 (by decide) | exact absurd (by decide) zc8 | (exfalso; first | exact absurd hm1 (Int32.not_le.mpr zc1) | exact absurd hm2 (Int32.not_le.mpr zc8)) | (exfalso; simp_all; done)
    · intro zc8
      with_reducible first | have ze8 := Int32.not_lt.mp zc8 | have ze8 := zc8
      refine hB bX10_wait_11 _ _ _ _ _ _ _ kX10_wait_11 ?_
      dsimp only [bX10_wait_11, kx_wp, kx_step, kx_lI, kx_lL, kx_lA, kx_gl, kx_pI, kx_pL, kx_pR, kx_pA, kx_pV, kx_s1, kx_s2, kx_sl, kx_pre, kx_c2, kx_pl, kx_cmp, kx_oF, kx_eqN, kx_nil, kx_c1, kx_ft, kx_aI, kx_aL, kx_aR, kx_ln, Nat.reduceAdd, Option.toList, List.cons_append, List.nil_append, cf10_0, cf0_0]
      repeat (simp only [h64, hA, ks_eq, ks_ss]; try dsimp only [kx_wp, kx_step, kx_lI, kx_lL, kx_lA, kx_gl, kx_pI, kx_pL, kx_pR, kx_pA, kx_pV, kx_s1, kx_s2, kx_sl, kx_pre, kx_c2, kx_pl, kx_cmp, kx_oF, kx_eqN, kx_nil, kx_c1, kx_ft, kx_aI, kx_aL, kx_aR, kx_ln, Nat.reduceAdd, Option.toList, List.cons_append, List.nil_append, cf10_0, cf0_0])
      repeat' apply And.intro
      all_goals try (first | with_reducible assumption | (with_reducible refine ck_nzI ?_; simp; done) | (with_reducible refine ck_nzL ?_; simp; done) | (with_reducible refine vp_in_nI ?_ ?_ <;> first | omega | decide) | (with_reducible refine Nat.le_of_ble_eq_true ?_; rfl) | omega | exact Or.inl trivial | exact Or.inr trivial | exact Or.inl rfl | exact Or.inr rfl)
      refine hC.2.1 95 _ _ _ _ _ _ _ _ _ _ _ _ _ _ _ _ _ lX10_95 (ct_X10_need l G (b := 1) (by decide)) rfl rfl (Nat.le_of_ble_eq_true rfl) (by first | decide | omega) (by decide) (by omega) (by omega) dX10_wait_16 ?_
      refine hB bX10_wait_19 _ _ _ _ _ _ _ kX10_wait_19 ?_
      dsimp only [bX10_wait_19, kx_wp, kx_step, kx_lI, kx_lL, kx_lA, kx_gl, kx_pI, kx_pL, kx_pR, kx_pA, kx_pV, kx_s1, kx_s2, kx_sl, kx_pre, kx_c2, kx_pl, kx_cmp, kx_oF, kx_eqN, kx_nil, kx_c1, kx_ft, kx_aI, kx_aL, kx_aR, kx_ln, Nat.reduceAdd, Option.toList, List.cons_append, List.nil_append, cf10_0, cf0_0]
      repeat (simp only [h64, hA, ks_eq, ks_ss]; try dsimp only [kx_wp, kx_step, kx_lI, kx_lL, kx_lA, kx_gl, kx_pI, kx_pL, kx_pR, kx_pA, kx_pV, kx_s1, kx_s2, kx_sl, kx_pre, kx_c2, kx_pl, kx_cmp, kx_oF, kx_eqN, kx_nil, kx_c1, kx_ft, kx_aI, kx_aL, kx_aR, kx_ln, Nat.reduceAdd, Option.toList, List.cons_append, List.nil_append, cf10_0, cf0_0])
      repeat' apply And.intro
      all_goals try (first | with_reducible assumption | (with_reducible refine ck_nzI ?_; simp; done) | (with_reducible refine ck_nzL ?_; simp; done) | (with_reducible refine vp_in_nI ?_ ?_ <;> first | omega | decide) | (with_reducible refine Nat.le_of_ble_eq_true ?_; rfl) | omega | exact Or.inl trivial | exact Or.inr trivial | exact Or.inl rfl | exact Or.inr rfl)
      exact hX.2 132 _ _ _ _ _ _ _ _ lX10_132 (ct_X10_needMinute_x l G hst hm) rfl rfl (Nat.le_of_ble_eq_true rfl) (by first | decide | omega) (by decide) dX10_wait_28


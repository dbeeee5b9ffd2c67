theorem cp_st {se v : Nat} (hs : se ≤ 100000) (hv : v < 64) : nI (se * 64) ||| nI v = nI (se * 64 + v) ∧ nI (se * 64 + v) &&& 63 = nI v := by
  refine ⟨?_, ?_⟩
  · rw [nI_or]
    congr 1
    have h3 := Nat.shiftLeft_add_eq_or_of_lt (i := 6) (b := v) (by omega) se
    rw [Nat.shiftLeft_eq] at h3
    exact h3.symm
  · rw [pk_andN (by omega) 6 (by decide)]
    congr 1
    omega
def bX4_fewest_0 : List kx_O := [(.iload_n 1, 1, 0, 0, .null), (.aload_n 0, 0, 0, 0, .null), (.getfield 22, 4, 3, 0, .null), (.if_icmp .lt 5, 10, 0, 0, .null)]
theorem kX4_fewest_0 : kx_oks kxL_X4 false cX4_fewest 0 bX4_fewest_0 = true := by decide +kernel
def bX4_fewest_8 : List kx_O := [(.iconst 0, 0, 0, 0, .int 0), (.ireturn, 0, 0, 0, .null)]
theorem kX4_fewest_8 : kx_oks kxL_X4 false cX4_fewest 8 bX4_fewest_8 = true := by decide +kernel
def bX4_fewest_10 : List kx_O := [(.aload_n 0, 0, 0, 0, .null), (.iload_n 1, 1, 0, 0, .null), (.iload_n 2, 2, 0, 0, .null)]
theorem kX4_fewest_10 : kx_oks kxL_X4 false cX4_fewest 10 bX4_fewest_10 = true := by decide +kernel
def bX4_fewest_16 : List kx_O := [(.istore_n 3, 3, 0, 0, .null), (.aload_n 0, 0, 0, 0, .null), (.getfield 31, 4, 6, 0, .null), (.iload_n 3, 3, 0, 0, .null), (.iaload, 0, 0, 0, .null), (.bipush 6, 0, 0, 0, .int 6), (.ishr, 0, 0, 0, .null), (.aload_n 0, 0, 0, 0, .null), (.getfield 34, 4, 7, 0, .null), (.if_icmp .eq 23, 53, 0, 0, .null)]
theorem kX4_fewest_16 : kx_oks kxL_X4 false cX4_fewest 16 bX4_fewest_16 = true := by decide +kernel
def bX4_fewest_33 : List kx_O := [(.aload_n 0, 0, 0, 0, .null), (.getfield 31, 4, 6, 0, .null), (.iload_n 3, 3, 0, 0, .null), (.aload_n 0, 0, 0, 0, .null), (.getfield 34, 4, 7, 0, .null), (.bipush 6, 0, 0, 0, .int 6), (.ishl, 0, 0, 0, .null), (.aload_n 0, 0, 0, 0, .null), (.iload_n 1, 1, 0, 0, .null), (.iload_n 2, 2, 0, 0, .null)]
theorem kX4_fewest_33 : kx_oks kxL_X4 false cX4_fewest 33 bX4_fewest_33 = true := by decide +kernel
def bX4_fewest_51 : List kx_O := [(.ior, 0, 0, 0, .null), (.iastore, 0, 0, 0, .null)]
theorem kX4_fewest_51 : kx_oks kxL_X4 false cX4_fewest 51 bX4_fewest_51 = true := by decide +kernel
def bX4_fewest_53 : List kx_O := [(.aload_n 0, 0, 0, 0, .null), (.getfield 31, 4, 6, 0, .null), (.iload_n 3, 3, 0, 0, .null), (.iaload, 0, 0, 0, .null), (.bipush 63, 0, 0, 0, .int 63), (.iand, 0, 0, 0, .null), (.ireturn, 0, 0, 0, .null)]
theorem kX4_fewest_53 : kx_oks kxL_X4 false cX4_fewest 53 bX4_fewest_53 = true := by decide +kernel
theorem dX4_fewest_13 : decode cX4_fewest 13 = .ok (.invokevirtual 85, 3) := by decide +kernel
theorem dX4_fewest_48 : decode cX4_fewest 48 = .ok (.invokevirtual 88, 3) := by decide +kernel
set_option maxRecDepth 100000 in
set_option maxHeartbeats 4000000 in
theorem ct_X4_fewest_0 (l : Launch) (G : kx_G) {P : kx_P} {sz : Nat} {nt : Nat} {F WS N : Nat → Int32} {ws : Nat → Nat} {n days many se : Nat} (hp : cp_H P nt F WS N ws n days many) (hF : F 7 = nI se) (hse : se ≤ 1000) (hv : cp_nv ws n many days se N) {tm now : Nat} (htm : tm = days)  : kx_Mn l G sX4_fewest 4 0 0 [.ref 81, .int (nI tm), .int (nI now)] P sz (fun rr P2 s2 => rr = some (.int (nI (0))) ∧ (∃ N2, P2 = kx_set P nt (kI 0 39973 N2) ∧ cp_nv ws n many days se N2) ∧ sz = s2) := by
  have hp0 := hp
  obtain ⟨p1, p2, p3, p4, p5, p6, p7, p8, p9, pa, pb, pc⟩ := hp
  refine kx_mkn kx_tab kxLok_X4 (ini := false) [some (.ref 81), some (.int (nI tm)), some (.int (nI now)), none] ⟨by decide, rfl, by decide, by decide⟩ (fun _ _ _ h => ⟨_, h.1⟩) rfl rfl (fun g hB hC hN => ?_)
  refine hB bX4_fewest_0 _ _ _ _ _ _ _ kX4_fewest_0 ?_
  dsimp only [bX4_fewest_0, kx_wp, kx_step, kx_lI, kx_lL, kx_lA, kx_gl, kx_pI, kx_pL, kx_pR, kx_pA, kx_pV, kx_s1, kx_s2, kx_sl, kx_pre, kx_c2, kx_pl, kx_cmp, kx_oF, kx_eqN, kx_nil, kx_c1, kx_ft, kx_aI, kx_aL, kx_aR, kx_ln, Nat.reduceAdd, Option.toList, List.cons_append, List.nil_append, cf4_3, cf4_6, cf4_7]
  repeat (simp only [p1, p2, p3, p4, p6, p8, pa, hF, ks_eq, ks_ss]; try dsimp only [kx_wp, kx_step, kx_lI, kx_lL, kx_lA, kx_gl, kx_pI, kx_pL, kx_pR, kx_pA, kx_pV, kx_s1, kx_s2, kx_sl, kx_pre, kx_c2, kx_pl, kx_cmp, kx_oF, kx_eqN, kx_nil, kx_c1, kx_ft, kx_aI, kx_aL, kx_aR, kx_ln, Nat.reduceAdd, Option.toList, List.cons_append, List.nil_append, cf4_3, cf4_6, cf4_7])
  repeat' apply And.intro
  all_goals try (first | with_reducible assumption | (with_reducible refine ck_nzI ?_; simp; done) | (with_reducible refine ck_nzL ?_; simp; done) | (with_reducible refine vp_in_nI ?_ ?_ <;> first | omega | decide) | (with_reducible refine Nat.le_of_ble_eq_true ?_; rfl) | omega | exact Or.inl trivial | exact Or.inr trivial | exact Or.inl rfl | exact Or.inr rfl)
  · intro zc5
    first | exact absurd rfl zc5 | exact absurd zc5 (by decide) | exact absurd (by decide) zc5 | (exfalso; first | exact absurd ((nI_ltI (a := tm) (b := days) (by omega) (by omega)).mp zc5) (by omega)) | (exfalso; simp_all; done)
  · intro zc5
    with_reducible first | have ze5 := Int32.not_lt.mp zc5 | have ze5 := zc5
    refine hB bX4_fewest_8 _ _ _ _ _ _ _ kX4_fewest_8 ?_
    dsimp only [bX4_fewest_8, kx_wp, kx_step, kx_lI, kx_lL, kx_lA, kx_gl, kx_pI, kx_pL, kx_pR, kx_pA, kx_pV, kx_s1, kx_s2, kx_sl, kx_pre, kx_c2, kx_pl, kx_cmp, kx_oF, kx_eqN, kx_nil, kx_c1, kx_ft, kx_aI, kx_aL, kx_aR, kx_ln, Nat.reduceAdd, Option.toList, List.cons_append, List.nil_append, cf4_3, cf4_6, cf4_7]
    repeat (simp only [p1, p2, p3, p4, p6, p8, pa, hF, ks_eq, ks_ss]; try dsimp only [kx_wp, kx_step, kx_lI, kx_lL, kx_lA, kx_gl, kx_pI, kx_pL, kx_pR, kx_pA, kx_pV, kx_s1, kx_s2, kx_sl, kx_pre, kx_c2, kx_pl, kx_cmp, kx_oF, kx_eqN, kx_nil, kx_c1, kx_ft, kx_aI, kx_aL, kx_aR, kx_ln, Nat.reduceAdd, Option.toList, List.cons_append, List.nil_append, cf4_3, cf4_6, cf4_7])
    all_goals (repeat' apply And.intro)
    all_goals ((try clear hB hC); first | exact True.intro | exact ⟨rfl, ⟨N, (ks_id p4).symm, hv⟩, rfl⟩ | exact rfl | exact ⟨N, (ks_id p4).symm, hv⟩)

set_option maxRecDepth 100000 in
set_option maxHeartbeats 4000000 in
theorem ct_X4_fewest_s (l : Launch) (G : kx_G) {P : kx_P} {sz : Nat} {nt : Nat} {F WS N : Nat → Int32} {ws : Nat → Nat} {n days many se : Nat} (hp : cp_H P nt F WS N ws n days many) (hF : F 7 = nI se) (hse : se ≤ 1000) (hv : cp_nv ws n many days se N) {q : Nat} (hT : ∀ (P : kx_P) (N : Nat → Int32) (tm now : Nat), cp_H P nt F WS N ws n days many → cp_nv ws n many days se N → tm + q + 1 = days → cp_ok n (q + 1) now → kx_Mn l G sX4_tryAll (2 * q + 5) 0 0 [.ref 81, .int (nI tm), .int (nI now)] P sz (fun rr P2 s2 => rr = some (.int (nI (cp_fw ws n many (q + 1) now))) ∧ (∃ N2, P2 = kx_set P nt (kI 0 39973 N2) ∧ cp_nv ws n many days se N2) ∧ sz = s2)) {tm now : Nat} (htm : tm + (q + 1) = days) (ho : cp_ok n (q + 1) now)  : kx_Mn l G sX4_fewest (2 * q + 6) 0 0 [.ref 81, .int (nI tm), .int (nI now)] P sz (fun rr P2 s2 => rr = some (.int (nI (cp_fw ws n many (q + 1) now))) ∧ (∃ N2, P2 = kx_set P nt (kI 0 39973 N2) ∧ cp_nv ws n many days se N2) ∧ sz = s2) := by
  have hp0 := hp
  obtain ⟨p1, p2, p3, p4, p5, p6, p7, p8, p9, pa, pb, pc⟩ := hp
  have er : days - tm = q + 1 := by omega
  have zi := cp_ix_lt ho p7 (by omega) (by omega)
  have zf := cp_fw_le ws n many (q + 1) now
  have c1 : (nI (cp_ix n (q + 1) now)).toNatClampNeg = cp_ix n (q + 1) now := nI_clamp (by omega)
  have z1 : nI se <<< ((6 : Int32) &&& 31) = nI (se * 64) := pk_shlN _ 6 (by decide) (by omega)
  have y6 : (cp_fw ws n many (q + 1) now) < 64 := by omega
  obtain ⟨z2, z3⟩ := cp_st (se := se) (v := cp_fw ws n many (q + 1) now) (by omega) y6
  have n81 : ¬ 81 = nt := by omega
  refine kx_mkn kx_tab kxLok_X4 (ini := false) [some (.ref 81), some (.int (nI tm)), some (.int (nI now)), none] ⟨by decide, rfl, by decide, by omega⟩ (fun _ _ _ h => ⟨_, h.1⟩) rfl rfl (fun g hB hC hN => ?_)
  refine hB bX4_fewest_0 _ _ _ _ _ _ _ kX4_fewest_0 ?_
  dsimp only [bX4_fewest_0, kx_wp, kx_step, kx_lI, kx_lL, kx_lA, kx_gl, kx_pI, kx_pL, kx_pR, kx_pA, kx_pV, kx_s1, kx_s2, kx_sl, kx_pre, kx_c2, kx_pl, kx_cmp, kx_oF, kx_eqN, kx_nil, kx_c1, kx_ft, kx_aI, kx_aL, kx_aR, kx_ln, Nat.reduceAdd, Option.toList, List.cons_append, List.nil_append, cf4_3, cf4_6, cf4_7]
  repeat (simp only [p1, p2, p3, p4, p6, p8, pa, hF, c1, z1, z2, z3, ks_ne n81, pk_us, ks_eq, ks_ss]; try dsimp only [kx_wp, kx_step, kx_lI, kx_lL, kx_lA, kx_gl, kx_pI, kx_pL, kx_pR, kx_pA, kx_pV, kx_s1, kx_s2, kx_sl, kx_pre, kx_c2, kx_pl, kx_cmp, kx_oF, kx_eqN, kx_nil, kx_c1, kx_ft, kx_aI, kx_aL, kx_aR, kx_ln, Nat.reduceAdd, Option.toList, List.cons_append, List.nil_append, cf4_3, cf4_6, cf4_7])
  repeat' apply And.intro
  all_goals try (first | with_reducible assumption | (with_reducible refine ck_nzI ?_; simp; done) | (with_reducible refine ck_nzL ?_; simp; done) | (with_reducible refine vp_in_nI ?_ ?_ <;> first | omega | decide) | (with_reducible refine Nat.le_of_ble_eq_true ?_; rfl) | omega | exact vp_in_nI zi.1 (by decide) | exact Or.inl trivial | exact Or.inr trivial | exact Or.inl rfl | exact Or.inr rfl)
  · intro zc5
    with_reducible first | have ze5 := Int32.not_le.mpr zc5 | have ze5 := zc5
    refine hB bX4_fewest_10 _ _ _ _ _ _ _ kX4_fewest_10 ?_
    dsimp only [bX4_fewest_10, kx_wp, kx_step, kx_lI, kx_lL, kx_lA, kx_gl, kx_pI, kx_pL, kx_pR, kx_pA, kx_pV, kx_s1, kx_s2, kx_sl, kx_pre, kx_c2, kx_pl, kx_cmp, kx_oF, kx_eqN, kx_nil, kx_c1, kx_ft, kx_aI, kx_aL, kx_aR, kx_ln, Nat.reduceAdd, Option.toList, List.cons_append, List.nil_append, cf4_3, cf4_6, cf4_7]
    repeat (simp only [p1, p2, p3, p4, p6, p8, pa, hF, c1, z1, z2, z3, ks_ne n81, pk_us, ks_eq, ks_ss]; try dsimp only [kx_wp, kx_step, kx_lI, kx_lL, kx_lA, kx_gl, kx_pI, kx_pL, kx_pR, kx_pA, kx_pV, kx_s1, kx_s2, kx_sl, kx_pre, kx_c2, kx_pl, kx_cmp, kx_oF, kx_eqN, kx_nil, kx_c1, kx_ft, kx_aI, kx_aL, kx_aR, kx_ln, Nat.reduceAdd, Option.toList, List.cons_append, List.nil_append, cf4_3, cf4_6, cf4_7])
    repeat' apply And.intro
    all_goals try (first | with_reducible assumption | (with_reducible refine ck_nzI ?_; simp; done) | (with_reducible refine ck_nzL ?_; simp; done) | (with_reducible refine vp_in_nI ?_ ?_ <;> first | omega | decide) | (with_reducible refine Nat.le_of_ble_eq_true ?_; rfl) | omega | exact vp_in_nI zi.1 (by decide) | exact Or.inl trivial | exact Or.inr trivial | exact Or.inl rfl | exact Or.inr rfl)
    have ho2 : cp_ok n (days - tm) now := by rw [er]; exact ho
    refine hC.1 85 _ _ _ _ _ _ _ 4 _ _ _ _ _ _ _ _ _ _ _ _ lX4_85 (ct_X4_noteOf l G hp0 (by omega) ho2) ⟨by decide, rfl⟩ (p1) rfl rfl (Nat.le_of_ble_eq_true rfl) (by first | decide | omega) (by decide) (by omega) (by omega) dX4_fewest_13 ?_
    rw [er]
    refine hB bX4_fewest_16 _ _ _ _ _ _ _ kX4_fewest_16 ?_
    dsimp only [bX4_fewest_16, kx_wp, kx_step, kx_lI, kx_lL, kx_lA, kx_gl, kx_pI, kx_pL, kx_pR, kx_pA, kx_pV, kx_s1, kx_s2, kx_sl, kx_pre, kx_c2, kx_pl, kx_cmp, kx_oF, kx_eqN, kx_nil, kx_c1, kx_ft, kx_aI, kx_aL, kx_aR, kx_ln, Nat.reduceAdd, Option.toList, List.cons_append, List.nil_append, cf4_3, cf4_6, cf4_7]
    repeat (simp only [p1, p2, p3, p4, p6, p8, pa, hF, c1, z1, z2, z3, ks_ne n81, pk_us, ks_eq, ks_ss]; try dsimp only [kx_wp, kx_step, kx_lI, kx_lL, kx_lA, kx_gl, kx_pI, kx_pL, kx_pR, kx_pA, kx_pV, kx_s1, kx_s2, kx_sl, kx_pre, kx_c2, kx_pl, kx_cmp, kx_oF, kx_eqN, kx_nil, kx_c1, kx_ft, kx_aI, kx_aL, kx_aR, kx_ln, Nat.reduceAdd, Option.toList, List.cons_append, List.nil_append, cf4_3, cf4_6, cf4_7])
    repeat' apply And.intro
    all_goals try (first | with_reducible assumption | (with_reducible refine ck_nzI ?_; simp; done) | (with_reducible refine ck_nzL ?_; simp; done) | (with_reducible refine vp_in_nI ?_ ?_ <;> first | omega | decide) | (with_reducible refine Nat.le_of_ble_eq_true ?_; rfl) | omega | exact vp_in_nI zi.1 (by decide) | exact Or.inl trivial | exact Or.inr trivial | exact Or.inl rfl | exact Or.inr rfl)
    · intro zc30
      have ze30 := zc30
      refine hB bX4_fewest_53 _ _ _ _ _ _ _ kX4_fewest_53 ?_
      dsimp only [bX4_fewest_53, kx_wp, kx_step, kx_lI, kx_lL, kx_lA, kx_gl, kx_pI, kx_pL, kx_pR, kx_pA, kx_pV, kx_s1, kx_s2, kx_sl, kx_pre, kx_c2, kx_pl, kx_cmp, kx_oF, kx_eqN, kx_nil, kx_c1, kx_ft, kx_aI, kx_aL, kx_aR, kx_ln, Nat.reduceAdd, Option.toList, List.cons_append, List.nil_append, cf4_3, cf4_6, cf4_7]
      repeat (simp only [p1, p2, p3, p4, p6, p8, pa, hF, c1, z1, z2, z3, ks_ne n81, pk_us, ks_eq, ks_ss]; try dsimp only [kx_wp, kx_step, kx_lI, kx_lL, kx_lA, kx_gl, kx_pI, kx_pL, kx_pR, kx_pA, kx_pV, kx_s1, kx_s2, kx_sl, kx_pre, kx_c2, kx_pl, kx_cmp, kx_oF, kx_eqN, kx_nil, kx_c1, kx_ft, kx_aI, kx_aL, kx_aR, kx_ln, Nat.reduceAdd, Option.toList, List.cons_append, List.nil_append, cf4_3, cf4_6, cf4_7])
      all_goals (repeat' apply And.intro)
      all_goals ((try clear hB hC); first | exact True.intro | exact vp_in_nI zi.1 (by decide) | exact rfl | (rw [hv.2 (q + 1) now (by omega) (by omega) ho zc30, z3]; done) | exact ⟨N, (ks_id p4).symm, hv⟩ | (refine ⟨_, ks_ss _ _ _ _, ?_⟩; exact hv2.put p7 p9 ⟨by omega, by omega⟩ ho) | (refine ⟨_, rfl, ?_⟩; exact hv2.put p7 p9 ⟨by omega, by omega⟩ ho) | trace_state)
    · intro zc30
      have ze30 := zc30
      refine hB bX4_fewest_33 _ _ _ _ _ _ _ kX4_fewest_33 ?_
      dsimp only [bX4_fewest_33, kx_wp, kx_step, kx_lI, kx_lL, kx_lA, kx_gl, kx_pI, kx_pL, kx_pR, kx_pA, kx_pV, kx_s1, kx_s2, kx_sl, kx_pre, kx_c2, kx_pl, kx_cmp, kx_oF, kx_eqN, kx_nil, kx_c1, kx_ft, kx_aI, kx_aL, kx_aR, kx_ln, Nat.reduceAdd, Option.toList, List.cons_append, List.nil_append, cf4_3, cf4_6, cf4_7]
      repeat (simp only [p1, p2, p3, p4, p6, p8, pa, hF, c1, z1, z2, z3, ks_ne n81, pk_us, ks_eq, ks_ss]; try dsimp only [kx_wp, kx_step, kx_lI, kx_lL, kx_lA, kx_gl, kx_pI, kx_pL, kx_pR, kx_pA, kx_pV, kx_s1, kx_s2, kx_sl, kx_pre, kx_c2, kx_pl, kx_cmp, kx_oF, kx_eqN, kx_nil, kx_c1, kx_ft, kx_aI, kx_aL, kx_aR, kx_ln, Nat.reduceAdd, Option.toList, List.cons_append, List.nil_append, cf4_3, cf4_6, cf4_7])
      repeat' apply And.intro
      all_goals try (first | with_reducible assumption | (with_reducible refine ck_nzI ?_; simp; done) | (with_reducible refine ck_nzL ?_; simp; done) | (with_reducible refine vp_in_nI ?_ ?_ <;> first | omega | decide) | (with_reducible refine Nat.le_of_ble_eq_true ?_; rfl) | omega | exact vp_in_nI zi.1 (by decide) | exact Or.inl trivial | exact Or.inr trivial | exact Or.inl rfl | exact Or.inr rfl)
      refine hN.1 88 _ _ _ _ _ _ _ 4 _ _ _ _ _ _ _ _ _ _ lX4_88 (hT P N tm now hp0 hv htm ho) ⟨by decide, rfl⟩ (p1) rfl rfl (Nat.le_of_ble_eq_true rfl) (by omega) (by decide) (by omega) (by omega) dX4_fewest_48 ?_
      rintro r2 P2 s2 ⟨rfl, ⟨N2, rfl, hv2⟩, rfl⟩
      refine hB bX4_fewest_51 _ _ _ _ _ _ _ kX4_fewest_51 ?_
      dsimp only [bX4_fewest_51, kx_wp, kx_step, kx_lI, kx_lL, kx_lA, kx_gl, kx_pI, kx_pL, kx_pR, kx_pA, kx_pV, kx_s1, kx_s2, kx_sl, kx_pre, kx_c2, kx_pl, kx_cmp, kx_oF, kx_eqN, kx_nil, kx_c1, kx_ft, kx_aI, kx_aL, kx_aR, kx_ln, Nat.reduceAdd, Option.toList, List.cons_append, List.nil_append, cf4_3, cf4_6, cf4_7]
      repeat (simp only [p1, p2, p3, p4, p6, p8, pa, hF, c1, z1, z2, z3, ks_ne n81, pk_us, ks_eq, ks_ss]; try dsimp only [kx_wp, kx_step, kx_lI, kx_lL, kx_lA, kx_gl, kx_pI, kx_pL, kx_pR, kx_pA, kx_pV, kx_s1, kx_s2, kx_sl, kx_pre, kx_c2, kx_pl, kx_cmp, kx_oF, kx_eqN, kx_nil, kx_c1, kx_ft, kx_aI, kx_aL, kx_aR, kx_ln, Nat.reduceAdd, Option.toList, List.cons_append, List.nil_append, cf4_3, cf4_6, cf4_7])
      repeat' apply And.intro
      all_goals try (first | with_reducible assumption | (with_reducible refine ck_nzI ?_; simp; done) | (with_reducible refine ck_nzL ?_; simp; done) | (with_reducible refine vp_in_nI ?_ ?_ <;> first | omega | decide) | (with_reducible refine Nat.le_of_ble_eq_true ?_; rfl) | omega | exact vp_in_nI zi.1 (by decide) | exact Or.inl trivial | exact Or.inr trivial | exact Or.inl rfl | exact Or.inr rfl)
      refine hB bX4_fewest_53 _ _ _ _ _ _ _ kX4_fewest_53 ?_
      dsimp only [bX4_fewest_53, kx_wp, kx_step, kx_lI, kx_lL, kx_lA, kx_gl, kx_pI, kx_pL, kx_pR, kx_pA, kx_pV, kx_s1, kx_s2, kx_sl, kx_pre, kx_c2, kx_pl, kx_cmp, kx_oF, kx_eqN, kx_nil, kx_c1, kx_ft, kx_aI, kx_aL, kx_aR, kx_ln, Nat.reduceAdd, Option.toList, List.cons_append, List.nil_append, cf4_3, cf4_6, cf4_7]
      repeat (simp only [p1, p2, p3, p4, p6, p8, pa, hF, c1, z1, z2, z3, ks_ne n81, pk_us, ks_eq, ks_ss]; try dsimp only [kx_wp, kx_step, kx_lI, kx_lL, kx_lA, kx_gl, kx_pI, kx_pL, kx_pR, kx_pA, kx_pV, kx_s1, kx_s2, kx_sl, kx_pre, kx_c2, kx_pl, kx_cmp, kx_oF, kx_eqN, kx_nil, kx_c1, kx_ft, kx_aI, kx_aL, kx_aR, kx_ln, Nat.reduceAdd, Option.toList, List.cons_append, List.nil_append, cf4_3, cf4_6, cf4_7])
      all_goals (repeat' apply And.intro)
      all_goals ((try clear hB hC); first | exact True.intro | exact vp_in_nI zi.1 (by decide) | exact rfl | (rw [hv.2 (q + 1) now (by omega) (by omega) ho zc30, z3]; done) | exact ⟨N, (ks_id p4).symm, hv⟩ | (refine ⟨_, ks_ss _ _ _ _, ?_⟩; exact hv2.put p7 p9 ⟨by omega, by omega⟩ ho) | (refine ⟨_, rfl, ?_⟩; exact hv2.put p7 p9 ⟨by omega, by omega⟩ ho) | trace_state)
  · intro zc5
    first | exact absurd rfl zc5 | exact absurd zc5 (by decide) | exact absurd (by decide) zc5 | (exfalso; first | exact absurd ((nI_ltI (a := tm) (b := days) (by omega) (by omega)).mpr (by omega)) zc5) | (exfalso; simp_all; done)

def bX4_tryAll_0 : List kx_O := [(.bipush 63, 0, 0, 0, .int 63), (.istore_n 3, 3, 0, 0, .null), (.iconst 0, 0, 0, 0, .int 0), (.istore 4, 4, 0, 0, .null)]
theorem kX4_tryAll_0 : kx_oks kxL_X4 false cX4_tryAll 0 bX4_tryAll_0 = true := by decide +kernel
def bX4_tryAll_6 : List kx_O := [(.iload 4, 4, 0, 0, .null), (.iconst 1, 0, 0, 0, .int 1), (.aload_n 0, 0, 0, 0, .null), (.getfield 18, 4, 2, 0, .null), (.ishl, 0, 0, 0, .null), (.if_icmp .ge 45, 59, 0, 0, .null)]
theorem kX4_tryAll_6 : kx_oks kxL_X4 false cX4_tryAll 6 bX4_tryAll_6 = true := by decide +kernel
def bX4_tryAll_17 : List kx_O := [(.aload_n 0, 0, 0, 0, .null), (.iload_n 1, 1, 0, 0, .null), (.iload_n 2, 2, 0, 0, .null), (.iload 4, 4, 0, 0, .null)]
theorem kX4_tryAll_17 : kx_oks kxL_X4 false cX4_tryAll 17 bX4_tryAll_17 = true := by decide +kernel
def bX4_tryAll_25 : List kx_O := [(.istore 5, 5, 0, 0, .null), (.iload 5, 5, 0, 0, .null), (.iconst (-1), 0, 0, 0, .int (-1)), (.if_icmp .eq 23, 53, 0, 0, .null)]
theorem kX4_tryAll_25 : kx_oks kxL_X4 false cX4_tryAll 25 bX4_tryAll_25 = true := by decide +kernel
def bX4_tryAll_33 : List kx_O := [(.iload_n 3, 3, 0, 0, .null), (.iload 4, 4, 0, 0, .null)]
theorem kX4_tryAll_33 : kx_oks kxL_X4 false cX4_tryAll 33 bX4_tryAll_33 = true := by decide +kernel
def bX4_tryAll_39 : List kx_O := [(.aload_n 0, 0, 0, 0, .null), (.iload_n 1, 1, 0, 0, .null), (.iconst 1, 0, 0, 0, .int 1), (.iadd, 0, 0, 0, .null), (.iload 5, 5, 0, 0, .null)]
theorem kX4_tryAll_39 : kx_oks kxL_X4 false cX4_tryAll 39 bX4_tryAll_39 = true := by decide +kernel
def bX4_tryAll_48 : List kx_O := [(.iadd, 0, 0, 0, .null)]
theorem kX4_tryAll_48 : kx_oks kxL_X4 false cX4_tryAll 48 bX4_tryAll_48 = true := by decide +kernel
def bX4_tryAll_52 : List kx_O := [(.istore_n 3, 3, 0, 0, .null)]
theorem kX4_tryAll_52 : kx_oks kxL_X4 false cX4_tryAll 52 bX4_tryAll_52 = true := by decide +kernel
def bX4_tryAll_53 : List kx_O := [(.iinc 4 1, 4, 0, 0, .int 1), (.goto (-50), 6, 0, 0, .null)]
theorem kX4_tryAll_53 : kx_oks kxL_X4 false cX4_tryAll 53 bX4_tryAll_53 = true := by decide +kernel
def bX4_tryAll_59 : List kx_O := [(.iload_n 3, 3, 0, 0, .null), (.ireturn, 0, 0, 0, .null)]
theorem kX4_tryAll_59 : kx_oks kxL_X4 false cX4_tryAll 59 bX4_tryAll_59 = true := by decide +kernel
theorem dX4_tryAll_22 : decode cX4_tryAll 22 = .ok (.invokevirtual 72, 3) := by decide +kernel
theorem dX4_tryAll_36 : decode cX4_tryAll 36 = .ok (.invokestatic 80, 3) := by decide +kernel
theorem dX4_tryAll_45 : decode cX4_tryAll 45 = .ok (.invokevirtual 62, 3) := by decide +kernel
theorem dX4_tryAll_49 : decode cX4_tryAll 49 = .ok (.invokestatic 56, 3) := by decide +kernel
set_option maxRecDepth 100000 in
set_option maxHeartbeats 4000000 in
theorem ct_X4_tryAll (l : Launch) (G : kx_G) {P : kx_P} {sz : Nat} {nt : Nat} {F WS N : Nat → Int32} {ws : Nat → Nat} {n days many se : Nat} (hp : cp_H P nt F WS N ws n days many) (hF : F 7 = nI se) (hse : se ≤ 1000) (hv : cp_nv ws n many days se N) {q : Nat} (hf : ∀ (P : kx_P) (N : Nat → Int32) (tm now : Nat), cp_H P nt F WS N ws n days many → cp_nv ws n many days se N → tm + q = days → cp_ok n (q) now → kx_Mn l G sX4_fewest (2 * q + 4) 0 0 [.ref 81, .int (nI tm), .int (nI now)] P sz (fun rr P2 s2 => rr = some (.int (nI (cp_fw ws n many (q) now))) ∧ (∃ N2, P2 = kx_set P nt (kI 0 39973 N2) ∧ cp_nv ws n many days se N2) ∧ sz = s2)) {tm now : Nat} (htm : tm + (q + 1) = days) (ho : cp_ok n (q + 1) now)  : kx_Mn l G sX4_tryAll (2 * q + 5) 0 0 [.ref 81, .int (nI tm), .int (nI now)] P sz (fun rr P2 s2 => rr = some (.int (nI (cp_fw ws n many (q + 1) now))) ∧ (∃ N2, P2 = kx_set P nt (kI 0 39973 N2) ∧ cp_nv ws n many days se N2) ∧ sz = s2) := by
  have hp0 := hp
  obtain ⟨p1, p2, p3, p4, p5, p6, p7, p8, p9, pa, pb, pc⟩ := hp
  have er : days - tm - 1 = q := by omega
  have hnow := cp_ok_lt p7 ho
  have n81 : ¬ 81 = nt := by omega
  have z1 := cp_1n n p7
  have z2 := cp_2n n p7
  refine kx_mkn kx_tab kxLok_X4 (ini := false) [some (.ref 81), some (.int (nI tm)), some (.int (nI now)), none, none, none] ⟨by decide, rfl, by decide, by omega⟩ (fun _ _ _ h => ⟨_, h.1⟩) rfl rfl (fun g hB hC hN => ?_)
  have loop6 : ∀ (n9 k : Nat) (N9 : Nat → Int32) (x9 : Option Value), k + n9 = 2 ^ n → cp_nv ws n many days se N9 → g 6 [some (.ref 81), some (.int (nI tm)), some (.int (nI now)), some (.int (nI (cp_fm (fun w => cp_nx ws n many q now w) (cp_fw ws n many q) (k)))), some (.int (nI (k))), x9] [] (kx_set P nt (kI 0 39973 N9)) sz 0 0 := by
    intro n9
    induction n9 with
    | zero =>
      intro k N9 x9 hk hv9
      obtain rfl : 2 ^ n = k := by omega
      refine hB bX4_tryAll_6 _ _ _ _ _ _ _ kX4_tryAll_6 ?_
      dsimp only [bX4_tryAll_6, kx_wp, kx_step, kx_lI, kx_lL, kx_lA, kx_gl, kx_pI, kx_pL, kx_pR, kx_pA, kx_pV, kx_s1, kx_s2, kx_sl, kx_pre, kx_c2, kx_pl, kx_cmp, kx_oF, kx_eqN, kx_nil, kx_c1, kx_ft, kx_aI, kx_aL, kx_aR, kx_ln, Nat.reduceAdd, Option.toList, List.cons_append, List.nil_append, cf4_2]
      repeat (simp only [p1, p2, p3, p4, p6, p8, pa, hF, nI_1, ks_ne n81, z1, ks_eq, ks_ss]; try dsimp only [kx_wp, kx_step, kx_lI, kx_lL, kx_lA, kx_gl, kx_pI, kx_pL, kx_pR, kx_pA, kx_pV, kx_s1, kx_s2, kx_sl, kx_pre, kx_c2, kx_pl, kx_cmp, kx_oF, kx_eqN, kx_nil, kx_c1, kx_ft, kx_aI, kx_aL, kx_aR, kx_ln, Nat.reduceAdd, Option.toList, List.cons_append, List.nil_append, cf4_2])
      repeat' apply And.intro
      all_goals try (first | with_reducible assumption | (with_reducible refine ck_nzI ?_; simp; done) | (with_reducible refine ck_nzL ?_; simp; done) | (with_reducible refine vp_in_nI ?_ ?_ <;> first | omega | decide) | (with_reducible refine Nat.le_of_ble_eq_true ?_; rfl) | omega | exact Or.inl trivial | exact Or.inr trivial | exact Or.inl rfl | exact Or.inr rfl)
      · intro zc14
        with_reducible first | have ze14 := Int32.not_lt.mpr zc14 | have ze14 := zc14
        refine hB bX4_tryAll_59 _ _ _ _ _ _ _ kX4_tryAll_59 ?_
        dsimp only [bX4_tryAll_59, kx_wp, kx_step, kx_lI, kx_lL, kx_lA, kx_gl, kx_pI, kx_pL, kx_pR, kx_pA, kx_pV, kx_s1, kx_s2, kx_sl, kx_pre, kx_c2, kx_pl, kx_cmp, kx_oF, kx_eqN, kx_nil, kx_c1, kx_ft, kx_aI, kx_aL, kx_aR, kx_ln, Nat.reduceAdd, Option.toList, List.cons_append, List.nil_append, cf4_2]
        repeat (simp only [p1, p2, p3, p4, p6, p8, pa, hF, nI_1, ks_ne n81, z1, ks_eq, ks_ss]; try dsimp only [kx_wp, kx_step, kx_lI, kx_lL, kx_lA, kx_gl, kx_pI, kx_pL, kx_pR, kx_pA, kx_pV, kx_s1, kx_s2, kx_sl, kx_pre, kx_c2, kx_pl, kx_cmp, kx_oF, kx_eqN, kx_nil, kx_c1, kx_ft, kx_aI, kx_aL, kx_aR, kx_ln, Nat.reduceAdd, Option.toList, List.cons_append, List.nil_append, cf4_2])
        all_goals (repeat' apply And.intro)
        all_goals ((try clear hB hC); first | exact True.intro | exact rfl | exact ⟨N9, rfl, hv9⟩ | trace_state)
      · intro zc14
        first | exact absurd rfl zc14 | exact absurd zc14 (by decide) | exact absurd (by decide) zc14 | (exfalso; first | exact absurd ((nI_leI (a := 2 ^ n) (b := 2 ^ n) (by omega) (by omega)).mpr (by omega)) zc14 | exact absurd ((nI_leI (a := 2 ^ n) (b := k) (by omega) (by omega)).mp zc14) (by omega) | exact zc30 hnx | exact hnx zc30) | (exfalso; simp_all; done)
    | succ n9 ih =>
      intro k N9 x9 hk hv9
      have zb := cj_bc_n k (by omega)
      have zp := ck_pc_le k (by omega)
      have zi := fun N9 x9 => ih (k + 1) N9 x9 (by omega)
      rw [cp_fm] at zi
      have zm := cp_fm_le (fun w => cp_nx ws n many q now w) (cp_fw ws n many q) k
      rcases hs : cp_nx ws n many q now k with _ | v
      · have hnx : cp_oi (cp_nx ws n many q now k) = -1 := by rw [hs]; rfl
        simp only [hs] at zi
        refine hB bX4_tryAll_6 _ _ _ _ _ _ _ kX4_tryAll_6 ?_
        dsimp only [bX4_tryAll_6, kx_wp, kx_step, kx_lI, kx_lL, kx_lA, kx_gl, kx_pI, kx_pL, kx_pR, kx_pA, kx_pV, kx_s1, kx_s2, kx_sl, kx_pre, kx_c2, kx_pl, kx_cmp, kx_oF, kx_eqN, kx_nil, kx_c1, kx_ft, kx_aI, kx_aL, kx_aR, kx_ln, Nat.reduceAdd, Option.toList, List.cons_append, List.nil_append, cf4_2]
        repeat (simp only [p1, p2, p3, p4, p6, p8, pa, hF, nI_1, ks_ne n81, z1, ks_eq, ks_ss, zb]; try dsimp only [kx_wp, kx_step, kx_lI, kx_lL, kx_lA, kx_gl, kx_pI, kx_pL, kx_pR, kx_pA, kx_pV, kx_s1, kx_s2, kx_sl, kx_pre, kx_c2, kx_pl, kx_cmp, kx_oF, kx_eqN, kx_nil, kx_c1, kx_ft, kx_aI, kx_aL, kx_aR, kx_ln, Nat.reduceAdd, Option.toList, List.cons_append, List.nil_append, cf4_2])
        repeat' apply And.intro
        all_goals try (first | with_reducible assumption | (with_reducible refine ck_nzI ?_; simp; done) | (with_reducible refine ck_nzL ?_; simp; done) | (with_reducible refine vp_in_nI ?_ ?_ <;> first | omega | decide) | (with_reducible refine Nat.le_of_ble_eq_true ?_; rfl) | omega | exact Or.inl trivial | exact Or.inr trivial | exact Or.inl rfl | exact Or.inr rfl)
        · intro zc14
          first | exact absurd rfl zc14 | exact absurd zc14 (by decide) | exact absurd (by decide) zc14 | (exfalso; first | exact absurd ((nI_leI (a := 2 ^ n) (b := 2 ^ n) (by omega) (by omega)).mpr (by omega)) zc14 | exact absurd ((nI_leI (a := 2 ^ n) (b := k) (by omega) (by omega)).mp zc14) (by omega) | exact zc30 hnx | exact hnx zc30) | (exfalso; simp_all; done)
        · intro zc14
          with_reducible first | have ze14 := Int32.not_le.mp zc14 | have ze14 := zc14
          refine hB bX4_tryAll_17 _ _ _ _ _ _ _ kX4_tryAll_17 ?_
          dsimp only [bX4_tryAll_17, kx_wp, kx_step, kx_lI, kx_lL, kx_lA, kx_gl, kx_pI, kx_pL, kx_pR, kx_pA, kx_pV, kx_s1, kx_s2, kx_sl, kx_pre, kx_c2, kx_pl, kx_cmp, kx_oF, kx_eqN, kx_nil, kx_c1, kx_ft, kx_aI, kx_aL, kx_aR, kx_ln, Nat.reduceAdd, Option.toList, List.cons_append, List.nil_append, cf4_2]
          repeat (simp only [p1, p2, p3, p4, p6, p8, pa, hF, nI_1, ks_ne n81, z1, ks_eq, ks_ss, zb]; try dsimp only [kx_wp, kx_step, kx_lI, kx_lL, kx_lA, kx_gl, kx_pI, kx_pL, kx_pR, kx_pA, kx_pV, kx_s1, kx_s2, kx_sl, kx_pre, kx_c2, kx_pl, kx_cmp, kx_oF, kx_eqN, kx_nil, kx_c1, kx_ft, kx_aI, kx_aL, kx_aR, kx_ln, Nat.reduceAdd, Option.toList, List.cons_append, List.nil_append, cf4_2])
          repeat' apply And.intro
          all_goals try (first | with_reducible assumption | (with_reducible refine ck_nzI ?_; simp; done) | (with_reducible refine ck_nzL ?_; simp; done) | (with_reducible refine vp_in_nI ?_ ?_ <;> first | omega | decide) | (with_reducible refine Nat.le_of_ble_eq_true ?_; rfl) | omega | exact Or.inl trivial | exact Or.inr trivial | exact Or.inl rfl | exact Or.inr rfl)
          refine hC.1 72 _ _ _ _ _ _ _ 4 _ _ _ _ _ _ _ _ _ _ _ _ lX4_72 (ct_X4_stateBehind l G (hp0.set (N2 := N9)) (by omega) hnow (by omega)) ⟨by decide, rfl⟩ (by rw [ks_ne n81]; exact p1) rfl rfl (Nat.le_of_ble_eq_true rfl) (by first | decide | omega) (by decide) (by omega) (by omega) dX4_tryAll_22 ?_
          rw [er]
          refine hB bX4_tryAll_25 _ _ _ _ _ _ _ kX4_tryAll_25 ?_
          dsimp only [bX4_tryAll_25, kx_wp, kx_step, kx_lI, kx_lL, kx_lA, kx_gl, kx_pI, kx_pL, kx_pR, kx_pA, kx_pV, kx_s1, kx_s2, kx_sl, kx_pre, kx_c2, kx_pl, kx_cmp, kx_oF, kx_eqN, kx_nil, kx_c1, kx_ft, kx_aI, kx_aL, kx_aR, kx_ln, Nat.reduceAdd, Option.toList, List.cons_append, List.nil_append, cf4_2]
          repeat (simp only [p1, p2, p3, p4, p6, p8, pa, hF, nI_1, ks_ne n81, z1, ks_eq, ks_ss, zb]; try dsimp only [kx_wp, kx_step, kx_lI, kx_lL, kx_lA, kx_gl, kx_pI, kx_pL, kx_pR, kx_pA, kx_pV, kx_s1, kx_s2, kx_sl, kx_pre, kx_c2, kx_pl, kx_cmp, kx_oF, kx_eqN, kx_nil, kx_c1, kx_ft, kx_aI, kx_aL, kx_aR, kx_ln, Nat.reduceAdd, Option.toList, List.cons_append, List.nil_append, cf4_2])
          repeat' apply And.intro
          all_goals try (first | with_reducible assumption | (with_reducible refine ck_nzI ?_; simp; done) | (with_reducible refine ck_nzL ?_; simp; done) | (with_reducible refine vp_in_nI ?_ ?_ <;> first | omega | decide) | (with_reducible refine Nat.le_of_ble_eq_true ?_; rfl) | omega | exact Or.inl trivial | exact Or.inr trivial | exact Or.inl rfl | exact Or.inr rfl)
          · intro zc30
            have ze30 := zc30
            refine hB bX4_tryAll_53 _ _ _ _ _ _ _ kX4_tryAll_53 ?_
            dsimp only [bX4_tryAll_53, kx_wp, kx_step, kx_lI, kx_lL, kx_lA, kx_gl, kx_pI, kx_pL, kx_pR, kx_pA, kx_pV, kx_s1, kx_s2, kx_sl, kx_pre, kx_c2, kx_pl, kx_cmp, kx_oF, kx_eqN, kx_nil, kx_c1, kx_ft, kx_aI, kx_aL, kx_aR, kx_ln, Nat.reduceAdd, Option.toList, List.cons_append, List.nil_append, cf4_2]
            repeat (simp only [p1, p2, p3, p4, p6, p8, pa, hF, nI_1, ks_ne n81, z1, ks_eq, ks_ss, zb]; try dsimp only [kx_wp, kx_step, kx_lI, kx_lL, kx_lA, kx_gl, kx_pI, kx_pL, kx_pR, kx_pA, kx_pV, kx_s1, kx_s2, kx_sl, kx_pre, kx_c2, kx_pl, kx_cmp, kx_oF, kx_eqN, kx_nil, kx_c1, kx_ft, kx_aI, kx_aL, kx_aR, kx_ln, Nat.reduceAdd, Option.toList, List.cons_append, List.nil_append, cf4_2])
            repeat' apply And.intro
            all_goals try (first | with_reducible assumption | (with_reducible refine ck_nzI ?_; simp; done) | (with_reducible refine ck_nzL ?_; simp; done) | (with_reducible refine vp_in_nI ?_ ?_ <;> first | omega | decide) | (with_reducible refine Nat.le_of_ble_eq_true ?_; rfl) | omega | exact Or.inl trivial | exact Or.inr trivial | exact Or.inl rfl | exact Or.inr rfl)
            exact zi _ _ hv9
          · intro zc30
            first | exact absurd rfl zc30 | exact absurd zc30 (by decide) | exact absurd (by decide) zc30 | (exfalso; first | exact absurd ((nI_leI (a := 2 ^ n) (b := 2 ^ n) (by omega) (by omega)).mpr (by omega)) zc14 | exact absurd ((nI_leI (a := 2 ^ n) (b := k) (by omega) (by omega)).mp zc14) (by omega) | exact zc30 hnx | exact hnx zc30) | (exfalso; simp_all; done)
      · have hv3 := cp_nx_ok (by omega) hs
        have hv4 := cp_ok_lt p7 hv3
        have hnx : ¬ cp_oi (cp_nx ws n many q now k) = -1 := by
          rw [hs]
          intro e
          have := congrArg Int32.toInt e
          rw [show (cp_oi (some v)).toInt = (v : Int) from nI_toInt (by omega)] at this
          have e2 : (-1 : Int32).toInt = -1 := by decide
          omega
        have e1 : cp_oi (cp_nx ws n many q now k) = nI v := by rw [hs]; rfl
        have zf := cp_fw_le ws n many q v
        have y1 := nI_add (ck_pc k) (cp_fw ws n many q v)
        have y2 : cj_min (nI (cp_fm (fun w => cp_nx ws n many q now w) (cp_fw ws n many q) (k))) (nI (ck_pc k + cp_fw ws n many q v)) = nI (min (cp_fm (fun w => cp_nx ws n many q now w) (cp_fw ws n many q) (k)) (ck_pc k + cp_fw ws n many q v)) := cj_min_n (by omega) (by omega)
        simp only [hs] at zi
        refine hB bX4_tryAll_6 _ _ _ _ _ _ _ kX4_tryAll_6 ?_
        dsimp only [bX4_tryAll_6, kx_wp, kx_step, kx_lI, kx_lL, kx_lA, kx_gl, kx_pI, kx_pL, kx_pR, kx_pA, kx_pV, kx_s1, kx_s2, kx_sl, kx_pre, kx_c2, kx_pl, kx_cmp, kx_oF, kx_eqN, kx_nil, kx_c1, kx_ft, kx_aI, kx_aL, kx_aR, kx_ln, Nat.reduceAdd, Option.toList, List.cons_append, List.nil_append, cf4_2]
        repeat (simp only [p1, p2, p3, p4, p6, p8, pa, hF, nI_1, ks_ne n81, z1, ks_eq, ks_ss, zb, e1, y1, y2]; try dsimp only [kx_wp, kx_step, kx_lI, kx_lL, kx_lA, kx_gl, kx_pI, kx_pL, kx_pR, kx_pA, kx_pV, kx_s1, kx_s2, kx_sl, kx_pre, kx_c2, kx_pl, kx_cmp, kx_oF, kx_eqN, kx_nil, kx_c1, kx_ft, kx_aI, kx_aL, kx_aR, kx_ln, Nat.reduceAdd, Option.toList, List.cons_append, List.nil_append, cf4_2])
        repeat' apply And.intro
        all_goals try (first | with_reducible assumption | (with_reducible refine ck_nzI ?_; simp; done) | (with_reducible refine ck_nzL ?_; simp; done) | (with_reducible refine vp_in_nI ?_ ?_ <;> first | omega | decide) | (with_reducible refine Nat.le_of_ble_eq_true ?_; rfl) | omega | exact Or.inl trivial | exact Or.inr trivial | exact Or.inl rfl | exact Or.inr rfl)
        · intro zc14
          first | exact absurd rfl zc14 | exact absurd zc14 (by decide) | exact absurd (by decide) zc14 | (exfalso; first | exact absurd ((nI_leI (a := 2 ^ n) (b := 2 ^ n) (by omega) (by omega)).mpr (by omega)) zc14 | exact absurd ((nI_leI (a := 2 ^ n) (b := k) (by omega) (by omega)).mp zc14) (by omega) | exact hnx (by rw [e1]; exact zc30) | exact zc30 hnx) | (exfalso; simp_all; done)
        · intro zc14
          with_reducible first | have ze14 := Int32.not_le.mp zc14 | have ze14 := zc14
          refine hB bX4_tryAll_17 _ _ _ _ _ _ _ kX4_tryAll_17 ?_
          dsimp only [bX4_tryAll_17, kx_wp, kx_step, kx_lI, kx_lL, kx_lA, kx_gl, kx_pI, kx_pL, kx_pR, kx_pA, kx_pV, kx_s1, kx_s2, kx_sl, kx_pre, kx_c2, kx_pl, kx_cmp, kx_oF, kx_eqN, kx_nil, kx_c1, kx_ft, kx_aI, kx_aL, kx_aR, kx_ln, Nat.reduceAdd, Option.toList, List.cons_append, List.nil_append, cf4_2]
          repeat (simp only [p1, p2, p3, p4, p6, p8, pa, hF, nI_1, ks_ne n81, z1, ks_eq, ks_ss, zb, e1, y1, y2]; try dsimp only [kx_wp, kx_step, kx_lI, kx_lL, kx_lA, kx_gl, kx_pI, kx_pL, kx_pR, kx_pA, kx_pV, kx_s1, kx_s2, kx_sl, kx_pre, kx_c2, kx_pl, kx_cmp, kx_oF, kx_eqN, kx_nil, kx_c1, kx_ft, kx_aI, kx_aL, kx_aR, kx_ln, Nat.reduceAdd, Option.toList, List.cons_append, List.nil_append, cf4_2])
          repeat' apply And.intro
          all_goals try (first | with_reducible assumption | (with_reducible refine ck_nzI ?_; simp; done) | (with_reducible refine ck_nzL ?_; simp; done) | (with_reducible refine vp_in_nI ?_ ?_ <;> first | omega | decide) | (with_reducible refine Nat.le_of_ble_eq_true ?_; rfl) | omega | exact Or.inl trivial | exact Or.inr trivial | exact Or.inl rfl | exact Or.inr rfl)
          refine hC.1 72 _ _ _ _ _ _ _ 4 _ _ _ _ _ _ _ _ _ _ _ _ lX4_72 (ct_X4_stateBehind l G (hp0.set (N2 := N9)) (by omega) hnow (by omega)) ⟨by decide, rfl⟩ (by rw [ks_ne n81]; exact p1) rfl rfl (Nat.le_of_ble_eq_true rfl) (by first | decide | omega) (by decide) (by omega) (by omega) dX4_tryAll_22 ?_
          rw [er]
          refine hB bX4_tryAll_25 _ _ _ _ _ _ _ kX4_tryAll_25 ?_
          dsimp only [bX4_tryAll_25, kx_wp, kx_step, kx_lI, kx_lL, kx_lA, kx_gl, kx_pI, kx_pL, kx_pR, kx_pA, kx_pV, kx_s1, kx_s2, kx_sl, kx_pre, kx_c2, kx_pl, kx_cmp, kx_oF, kx_eqN, kx_nil, kx_c1, kx_ft, kx_aI, kx_aL, kx_aR, kx_ln, Nat.reduceAdd, Option.toList, List.cons_append, List.nil_append, cf4_2]
          repeat (simp only [p1, p2, p3, p4, p6, p8, pa, hF, nI_1, ks_ne n81, z1, ks_eq, ks_ss, zb, e1, y1, y2]; try dsimp only [kx_wp, kx_step, kx_lI, kx_lL, kx_lA, kx_gl, kx_pI, kx_pL, kx_pR, kx_pA, kx_pV, kx_s1, kx_s2, kx_sl, kx_pre, kx_c2, kx_pl, kx_cmp, kx_oF, kx_eqN, kx_nil, kx_c1, kx_ft, kx_aI, kx_aL, kx_aR, kx_ln, Nat.reduceAdd, Option.toList, List.cons_append, List.nil_append, cf4_2])
          repeat' apply And.intro
          all_goals try (first | with_reducible assumption | (with_reducible refine ck_nzI ?_; simp; done) | (with_reducible refine ck_nzL ?_; simp; done) | (with_reducible refine vp_in_nI ?_ ?_ <;> first | omega | decide) | (with_reducible refine Nat.le_of_ble_eq_true ?_; rfl) | omega | exact Or.inl trivial | exact Or.inr trivial | exact Or.inl rfl | exact Or.inr rfl)
          · intro zc30
            first | exact absurd rfl zc30 | exact absurd zc30 (by decide) | exact absurd (by decide) zc30 | (exfalso; first | exact absurd ((nI_leI (a := 2 ^ n) (b := 2 ^ n) (by omega) (by omega)).mpr (by omega)) zc14 | exact absurd ((nI_leI (a := 2 ^ n) (b := k) (by omega) (by omega)).mp zc14) (by omega) | exact hnx (by rw [e1]; exact zc30) | exact zc30 hnx) | (exfalso; simp_all; done)
          · intro zc30
            have ze30 := zc30
            refine hB bX4_tryAll_33 _ _ _ _ _ _ _ kX4_tryAll_33 ?_
            dsimp only [bX4_tryAll_33, kx_wp, kx_step, kx_lI, kx_lL, kx_lA, kx_gl, kx_pI, kx_pL, kx_pR, kx_pA, kx_pV, kx_s1, kx_s2, kx_sl, kx_pre, kx_c2, kx_pl, kx_cmp, kx_oF, kx_eqN, kx_nil, kx_c1, kx_ft, kx_aI, kx_aL, kx_aR, kx_ln, Nat.reduceAdd, Option.toList, List.cons_append, List.nil_append, cf4_2]
            repeat (simp only [p1, p2, p3, p4, p6, p8, pa, hF, nI_1, ks_ne n81, z1, ks_eq, ks_ss, zb, e1, y1, y2]; try dsimp only [kx_wp, kx_step, kx_lI, kx_lL, kx_lA, kx_gl, kx_pI, kx_pL, kx_pR, kx_pA, kx_pV, kx_s1, kx_s2, kx_sl, kx_pre, kx_c2, kx_pl, kx_cmp, kx_oF, kx_eqN, kx_nil, kx_c1, kx_ft, kx_aI, kx_aL, kx_aR, kx_ln, Nat.reduceAdd, Option.toList, List.cons_append, List.nil_append, cf4_2])
            repeat' apply And.intro
            all_goals try (first | with_reducible assumption | (with_reducible refine ck_nzI ?_; simp; done) | (with_reducible refine ck_nzL ?_; simp; done) | (with_reducible refine vp_in_nI ?_ ?_ <;> first | omega | decide) | (with_reducible refine Nat.le_of_ble_eq_true ?_; rfl) | omega | exact Or.inl trivial | exact Or.inr trivial | exact Or.inl rfl | exact Or.inr rfl)
            refine hC.2.1 80 _ _ _ _ _ _ _ _ _ _ _ _ _ _ _ _ _ lX4_80 (ct_J6_bitCount_0f7a4 l G) rfl rfl (Nat.le_of_ble_eq_true rfl) (by first | decide | omega) (by decide) (by omega) (by omega) dX4_tryAll_36 ?_
            refine hB bX4_tryAll_39 _ _ _ _ _ _ _ kX4_tryAll_39 ?_
            dsimp only [bX4_tryAll_39, kx_wp, kx_step, kx_lI, kx_lL, kx_lA, kx_gl, kx_pI, kx_pL, kx_pR, kx_pA, kx_pV, kx_s1, kx_s2, kx_sl, kx_pre, kx_c2, kx_pl, kx_cmp, kx_oF, kx_eqN, kx_nil, kx_c1, kx_ft, kx_aI, kx_aL, kx_aR, kx_ln, Nat.reduceAdd, Option.toList, List.cons_append, List.nil_append, cf4_2]
            repeat (simp only [p1, p2, p3, p4, p6, p8, pa, hF, nI_1, ks_ne n81, z1, ks_eq, ks_ss, zb, e1, y1, y2]; try dsimp only [kx_wp, kx_step, kx_lI, kx_lL, kx_lA, kx_gl, kx_pI, kx_pL, kx_pR, kx_pA, kx_pV, kx_s1, kx_s2, kx_sl, kx_pre, kx_c2, kx_pl, kx_cmp, kx_oF, kx_eqN, kx_nil, kx_c1, kx_ft, kx_aI, kx_aL, kx_aR, kx_ln, Nat.reduceAdd, Option.toList, List.cons_append, List.nil_append, cf4_2])
            repeat' apply And.intro
            all_goals try (first | with_reducible assumption | (with_reducible refine ck_nzI ?_; simp; done) | (with_reducible refine ck_nzL ?_; simp; done) | (with_reducible refine vp_in_nI ?_ ?_ <;> first | omega | decide) | (with_reducible refine Nat.le_of_ble_eq_true ?_; rfl) | omega | exact Or.inl trivial | exact Or.inr trivial | exact Or.inl rfl | exact Or.inr rfl)
            refine hN.1 62 _ _ _ _ _ _ _ 4 _ _ _ _ _ _ _ _ _ _ lX4_62 (hf _ N9 (tm + 1) v (hp0.set (N2 := N9)) hv9 (by omega) (cp_nx_ok (by omega) hs)) ⟨by decide, rfl⟩ (by rw [ks_ne n81]; exact p1) rfl rfl (Nat.le_of_ble_eq_true rfl) (by omega) (by decide) (by omega) (by omega) dX4_tryAll_45 ?_
            rintro r2 P2 s2 ⟨rfl, ⟨N2, rfl, hv2⟩, rfl⟩
            rw [ks_ss]
            refine hB bX4_tryAll_48 _ _ _ _ _ _ _ kX4_tryAll_48 ?_
            dsimp only [bX4_tryAll_48, kx_wp, kx_step, kx_lI, kx_lL, kx_lA, kx_gl, kx_pI, kx_pL, kx_pR, kx_pA, kx_pV, kx_s1, kx_s2, kx_sl, kx_pre, kx_c2, kx_pl, kx_cmp, kx_oF, kx_eqN, kx_nil, kx_c1, kx_ft, kx_aI, kx_aL, kx_aR, kx_ln, Nat.reduceAdd, Option.toList, List.cons_append, List.nil_append, cf4_2]
            repeat (simp only [p1, p2, p3, p4, p6, p8, pa, hF, nI_1, ks_ne n81, z1, ks_eq, ks_ss, zb, e1, y1, y2]; try dsimp only [kx_wp, kx_step, kx_lI, kx_lL, kx_lA, kx_gl, kx_pI, kx_pL, kx_pR, kx_pA, kx_pV, kx_s1, kx_s2, kx_sl, kx_pre, kx_c2, kx_pl, kx_cmp, kx_oF, kx_eqN, kx_nil, kx_c1, kx_ft, kx_aI, kx_aL, kx_aR, kx_ln, Nat.reduceAdd, Option.toList, List.cons_append, List.nil_append, cf4_2])
            repeat' apply And.intro
            all_goals try (first | with_reducible assumption | (with_reducible refine ck_nzI ?_; simp; done) | (with_reducible refine ck_nzL ?_; simp; done) | (with_reducible refine vp_in_nI ?_ ?_ <;> first | omega | decide) | (with_reducible refine Nat.le_of_ble_eq_true ?_; rfl) | omega | exact Or.inl trivial | exact Or.inr trivial | exact Or.inl rfl | exact Or.inr rfl)
            refine hC.2.1 56 _ _ _ _ _ _ _ _ _ _ _ _ _ _ _ _ _ lX4_56 (ct_J9_min_7cf53 l G) rfl rfl (Nat.le_of_ble_eq_true rfl) (by first | decide | omega) (by decide) (by omega) (by omega) dX4_tryAll_49 ?_
            refine hB bX4_tryAll_52 _ _ _ _ _ _ _ kX4_tryAll_52 ?_
            dsimp only [bX4_tryAll_52, kx_wp, kx_step, kx_lI, kx_lL, kx_lA, kx_gl, kx_pI, kx_pL, kx_pR, kx_pA, kx_pV, kx_s1, kx_s2, kx_sl, kx_pre, kx_c2, kx_pl, kx_cmp, kx_oF, kx_eqN, kx_nil, kx_c1, kx_ft, kx_aI, kx_aL, kx_aR, kx_ln, Nat.reduceAdd, Option.toList, List.cons_append, List.nil_append, cf4_2]
            repeat (simp only [p1, p2, p3, p4, p6, p8, pa, hF, nI_1, ks_ne n81, z1, ks_eq, ks_ss, zb, e1, y1, y2]; try dsimp only [kx_wp, kx_step, kx_lI, kx_lL, kx_lA, kx_gl, kx_pI, kx_pL, kx_pR, kx_pA, kx_pV, kx_s1, kx_s2, kx_sl, kx_pre, kx_c2, kx_pl, kx_cmp, kx_oF, kx_eqN, kx_nil, kx_c1, kx_ft, kx_aI, kx_aL, kx_aR, kx_ln, Nat.reduceAdd, Option.toList, List.cons_append, List.nil_append, cf4_2])
            repeat' apply And.intro
            all_goals try (first | with_reducible assumption | (with_reducible refine ck_nzI ?_; simp; done) | (with_reducible refine ck_nzL ?_; simp; done) | (with_reducible refine vp_in_nI ?_ ?_ <;> first | omega | decide) | (with_reducible refine Nat.le_of_ble_eq_true ?_; rfl) | omega | exact Or.inl trivial | exact Or.inr trivial | exact Or.inl rfl | exact Or.inr rfl)
            refine hB bX4_tryAll_53 _ _ _ _ _ _ _ kX4_tryAll_53 ?_
            dsimp only [bX4_tryAll_53, kx_wp, kx_step, kx_lI, kx_lL, kx_lA, kx_gl, kx_pI, kx_pL, kx_pR, kx_pA, kx_pV, kx_s1, kx_s2, kx_sl, kx_pre, kx_c2, kx_pl, kx_cmp, kx_oF, kx_eqN, kx_nil, kx_c1, kx_ft, kx_aI, kx_aL, kx_aR, kx_ln, Nat.reduceAdd, Option.toList, List.cons_append, List.nil_append, cf4_2]
            repeat (simp only [p1, p2, p3, p4, p6, p8, pa, hF, nI_1, ks_ne n81, z1, ks_eq, ks_ss, zb, e1, y1, y2]; try dsimp only [kx_wp, kx_step, kx_lI, kx_lL, kx_lA, kx_gl, kx_pI, kx_pL, kx_pR, kx_pA, kx_pV, kx_s1, kx_s2, kx_sl, kx_pre, kx_c2, kx_pl, kx_cmp, kx_oF, kx_eqN, kx_nil, kx_c1, kx_ft, kx_aI, kx_aL, kx_aR, kx_ln, Nat.reduceAdd, Option.toList, List.cons_append, List.nil_append, cf4_2])
            repeat' apply And.intro
            all_goals try (first | with_reducible assumption | (with_reducible refine ck_nzI ?_; simp; done) | (with_reducible refine ck_nzL ?_; simp; done) | (with_reducible refine vp_in_nI ?_ ?_ <;> first | omega | decide) | (with_reducible refine Nat.le_of_ble_eq_true ?_; rfl) | omega | exact Or.inl trivial | exact Or.inr trivial | exact Or.inl rfl | exact Or.inr rfl)
            exact zi _ _ hv2
  refine hB bX4_tryAll_0 _ _ _ _ _ _ _ kX4_tryAll_0 ?_
  dsimp only [bX4_tryAll_0, kx_wp, kx_step, kx_lI, kx_lL, kx_lA, kx_gl, kx_pI, kx_pL, kx_pR, kx_pA, kx_pV, kx_s1, kx_s2, kx_sl, kx_pre, kx_c2, kx_pl, kx_cmp, kx_oF, kx_eqN, kx_nil, kx_c1, kx_ft, kx_aI, kx_aL, kx_aR, kx_ln, Nat.reduceAdd, Option.toList, List.cons_append, List.nil_append, cf4_2]
  repeat (simp only [p1, p2, p3, p4, p6, p8, pa, hF, nI_1, ks_ne n81, z1, ks_eq, ks_ss]; try dsimp only [kx_wp, kx_step, kx_lI, kx_lL, kx_lA, kx_gl, kx_pI, kx_pL, kx_pR, kx_pA, kx_pV, kx_s1, kx_s2, kx_sl, kx_pre, kx_c2, kx_pl, kx_cmp, kx_oF, kx_eqN, kx_nil, kx_c1, kx_ft, kx_aI, kx_aL, kx_aR, kx_ln, Nat.reduceAdd, Option.toList, List.cons_append, List.nil_append, cf4_2])
  repeat' apply And.intro
  all_goals try (first | with_reducible assumption | (with_reducible refine ck_nzI ?_; simp; done) | (with_reducible refine ck_nzL ?_; simp; done) | (with_reducible refine vp_in_nI ?_ ?_ <;> first | omega | decide) | (with_reducible refine Nat.le_of_ble_eq_true ?_; rfl) | omega | exact Or.inl trivial | exact Or.inr trivial | exact Or.inl rfl | exact Or.inr rfl)
  have zi := loop6 (2 ^ n) 0 N none (by omega) hv
  rw [ks_id p4] at zi
  exact zi

theorem ct_X4_fewest (l : Launch) (G : kx_G) {sz : Nat} {nt : Nat} {F WS : Nat → Int32} {ws : Nat → Nat} {n days many se : Nat} (hF : F 7 = nI se) (hse : se ≤ 1000) : ∀ (q : Nat), ∀ (P : kx_P) (N : Nat → Int32) (tm now : Nat), cp_H P nt F WS N ws n days many → cp_nv ws n many days se N → tm + q = days → cp_ok n (q) now → kx_Mn l G sX4_fewest (2 * q + 4) 0 0 [.ref 81, .int (nI tm), .int (nI now)] P sz (fun rr P2 s2 => rr = some (.int (nI (cp_fw ws n many (q) now))) ∧ (∃ N2, P2 = kx_set P nt (kI 0 39973 N2) ∧ cp_nv ws n many days se N2) ∧ sz = s2) := by
  intro q
  induction q with
  | zero => intro P N tm now hp hv htm ho; exact ct_X4_fewest_0 l G hp hF hse hv (by omega)
  | succ q ih =>
    intro P N tm now hp hv htm ho
    refine ct_X4_fewest_s l G hp hF hse hv ?_ htm ho
    intro P N tm now hp hv htm ho
    exact ct_X4_tryAll l G hp hF hse hv ih htm ho

/-! printed by wip/whole/nD2.py: the law's cases -/
set_option maxRecDepth 100000 in
set_option maxHeartbeats 4000000 in
theorem cj_mend (l : Launch) (G : kx_G) (hst : l.stackTraces = false) {P : kx_P} {sz : Nat} {M : Nat → Int32} {A : Nat → Nat → Int32} {L : Nat → Nat → Int64} {cl mi se : Nat} {bl : Nat → Nat} {go : Nat → Int64} {Ln i k n : Nat} {xs : Nat → Int32} {o5 o6 o7 : Option Value} {g : kx_F} (h : cI P sz (M, A, L) cl mi se bl) (h3 : P 3 = kI 5 Ln xs) (h143 : P 143 = kL 1 go) (hi : i + 6 ≤ Ln) (hL : Ln ≤ 3072) (hk : k + 8 ≤ 601024) (hn : n + cro bl + 2206 ≤ 7293033) (hse : se ≤ 999) (hB : kx_rB kxL_L false cL_law_ 601024 7293033 (fun r _ _ => r = some (.int 1)) g) (hN : kx_rN l G RL cL_law_ 60 601024 7293033 g) (hW : kx_rW l G RL cL_law_ 60 601024 7293033 g) (hgo : cAf g Ln xs i se k n bl) : g 1243 [some (.ref 3), some (.ref 64), some (.ref 93), some (.ref 143), some (.int (nI i)), o5, o6, o7] [] P sz k n := by
  have e1x : nI i + 1 = nI (i + 1) := by rw [show (1 : Int32) = nI 1 from rfl, nI_add]
  have c1x : (nI (i + 1)).toNatClampNeg = i + 1 := nI_clamp (by omega)
  have e2x : nI i + 2 = nI (i + 2) := by rw [show (2 : Int32) = nI 2 from rfl, nI_add]
  have c2x : (nI (i + 2)).toNatClampNeg = i + 2 := nI_clamp (by omega)
  have e3x : nI i + 3 = nI (i + 3) := by rw [show (3 : Int32) = nI 3 from rfl, nI_add]
  have c3x : (nI (i + 3)).toNatClampNeg = i + 3 := nI_clamp (by omega)
  have e4x : nI i + 4 = nI (i + 4) := by rw [show (4 : Int32) = nI 4 from rfl, nI_add]
  have c4x : (nI (i + 4)).toNatClampNeg = i + 4 := nI_clamp (by omega)
  have e5x : nI i + 5 = nI (i + 5) := by rw [show (5 : Int32) = nI 5 from rfl, nI_add]
  have c5x : (nI (i + 5)).toNatClampNeg = i + 5 := nI_clamp (by omega)
  have hc0 : (0 : Int32).toNatClampNeg = 0 := rfl
  obtain ⟨f64, h64⟩ := cI_k64 h
  have hs := cs_mend l G hst h (xs (i + 1)) (xs (i + 2))
  obtain ⟨k9, dw, dm, mc, ms, cl1, mi1, se1, bl1, Q, q1, q2, q3, q4, q5, hw, hmo⟩ := cSs.s (yw := sL_mend) (hh := hL_mend) (Aw := [.ref 64, .int (xs (i + 1)), .int (xs (i + 2)), .ref 143]) h h143 hs (fun d mc ms Po => cw_mend_t l G h64) (fun p hp => by
    simp only [List.mem_cons, List.not_mem_nil, or_false] at hp
    rcases hp with rfl | rfl
    · exact ⟨by decide, fun d => cw_mend_x0 l G h64⟩
    · exact ⟨by decide, fun d => cw_mend_x1 l G h64⟩)
  refine hB bL_law__1243 _ _ _ _ _ _ _ kL_law__1243 ?_
  dsimp only [bL_law__1243, kx_wp, kx_step, kx_lI, kx_lL, kx_lA, kx_gl, kx_pI, kx_pL, kx_pR, kx_pA, kx_pV, kx_s1, kx_s2, kx_sl, kx_pre, kx_c2, kx_pl, kx_cmp, kx_oF, kx_eqN, kx_nil, kx_c1, kx_ft, kx_aI, kx_aL, kx_aR, kx_ln, Nat.reduceAdd, Option.toList, List.cons_append, List.nil_append]
  repeat (simp only [e1x, c1x, e2x, c2x, e3x, c3x, e4x, c4x, e5x, c5x, h3]; try dsimp only [kx_wp, kx_step, kx_lI, kx_lL, kx_lA, kx_gl, kx_pI, kx_pL, kx_pR, kx_pA, kx_pV, kx_s1, kx_s2, kx_sl, kx_pre, kx_c2, kx_pl, kx_cmp, kx_oF, kx_eqN, kx_nil, kx_c1, kx_ft, kx_aI, kx_aL, kx_aR, kx_ln, Nat.reduceAdd, Option.toList, List.cons_append, List.nil_append])
  repeat' apply And.intro
  all_goals try (first | with_reducible assumption | (with_reducible refine ck_nzI ?_; simp; done) | (with_reducible refine ck_nzL ?_; simp; done) | (with_reducible refine vp_in_nI ?_ ?_ <;> first | omega | decide) | (with_reducible refine Nat.le_of_ble_eq_true ?_; rfl) | omega | (unfold vp_in; decide))
  refine hW 181 _ _ _ _ _ _ _ _ _ _ _ _ _ _ _ _ lL_181 hw rfl rfl (Nat.le_of_ble_eq_true rfl) (by omega) (by decide) (by omega) (by omega) dL_law__1257 ?_
  rintro r2 P2 s2 ⟨e2, hQ⟩
  rw [e2]
  obtain ⟨⟨fm, h93⟩, h33, hM⟩ := hmo P2 s2 hQ
  have h33 := h33.trans h3
  dsimp only [Option.toList, List.cons_append, List.nil_append]
  refine hB bL_law__1260 _ _ _ _ _ _ _ kL_law__1260 ?_
  dsimp only [bL_law__1260, kx_wp, kx_step, kx_lI, kx_lL, kx_lA, kx_gl, kx_pI, kx_pL, kx_pR, kx_pA, kx_pV, kx_s1, kx_s2, kx_sl, kx_pre, kx_c2, kx_pl, kx_cmp, kx_oF, kx_eqN, kx_nil, kx_c1, kx_ft, kx_aI, kx_aL, kx_aR, kx_ln, Nat.reduceAdd, Option.toList, List.cons_append, List.nil_append]
  repeat (simp only [e1x, c1x, e2x, c2x, e3x, c3x, e4x, c4x, e5x, c5x, h33]; try dsimp only [kx_wp, kx_step, kx_lI, kx_lL, kx_lA, kx_gl, kx_pI, kx_pL, kx_pR, kx_pA, kx_pV, kx_s1, kx_s2, kx_sl, kx_pre, kx_c2, kx_pl, kx_cmp, kx_oF, kx_eqN, kx_nil, kx_c1, kx_ft, kx_aI, kx_aL, kx_aR, kx_ln, Nat.reduceAdd, Option.toList, List.cons_append, List.nil_append])
  repeat' apply And.intro
  all_goals try (first | with_reducible assumption | (with_reducible refine ck_nzI ?_; simp; done) | (with_reducible refine ck_nzL ?_; simp; done) | (with_reducible refine vp_in_nI ?_ ?_ <;> first | omega | decide) | (with_reducible refine Nat.le_of_ble_eq_true ?_; rfl) | omega | (unfold vp_in; decide))
  refine hN.1 183 _ _ _ _ _ _ _ 11 _ _ _ _ _ _ _ _ _ _ lL_183 hM ⟨by decide, rfl⟩ h93 rfl rfl (Nat.le_of_ble_eq_true rfl) (by omega) (by decide) (by omega) (by omega) dL_law__1275 ?_
  rintro r3 P3 s3 ⟨e3, v, S2, go2, e4, hT, hk0, hI, h34, h143b, hgo0⟩
  obtain ⟨b9, e5⟩ := hT.2 (by decide)
  subst e5
  rw [e3, e4]
  have h34 := h34.trans h3
  have h93b := cI_93 hI
  have hth := cI_th l G hI
  rw [hk0] at hth
  dsimp only [Option.toList, List.cons_append, List.nil_append]
  refine hB bL_law__1278 _ _ _ _ _ _ _ kL_law__1278 ?_
  dsimp only [bL_law__1278, kx_wp, kx_step, kx_lI, kx_lL, kx_lA, kx_gl, kx_pI, kx_pL, kx_pR, kx_pA, kx_pV, kx_s1, kx_s2, kx_sl, kx_pre, kx_c2, kx_pl, kx_cmp, kx_oF, kx_eqN, kx_nil, kx_c1, kx_ft, kx_aI, kx_aL, kx_aR, kx_ln, Nat.reduceAdd, Option.toList, List.cons_append, List.nil_append]
  repeat (simp only [e1x, c1x, e2x, c2x, e3x, c3x, e4x, c4x, e5x, c5x, h143b, hc0]; try dsimp only [kx_wp, kx_step, kx_lI, kx_lL, kx_lA, kx_gl, kx_pI, kx_pL, kx_pR, kx_pA, kx_pV, kx_s1, kx_s2, kx_sl, kx_pre, kx_c2, kx_pl, kx_cmp, kx_oF, kx_eqN, kx_nil, kx_c1, kx_ft, kx_aI, kx_aL, kx_aR, kx_ln, Nat.reduceAdd, Option.toList, List.cons_append, List.nil_append])
  repeat' apply And.intro
  all_goals try (first | with_reducible assumption | (with_reducible refine ck_nzI ?_; simp; done) | (with_reducible refine ck_nzL ?_; simp; done) | (with_reducible refine vp_in_nI ?_ ?_ <;> first | omega | decide) | (with_reducible refine Nat.le_of_ble_eq_true ?_; rfl) | omega | (unfold vp_in; decide))
  refine hN.1 120 _ _ _ _ _ _ _ 11 _ _ _ _ _ _ _ _ _ _ lL_120 hth.n ⟨by decide, rfl⟩ h93b rfl rfl (Nat.le_of_ble_eq_true rfl) (by omega) (by decide) (by omega) (by omega) dL_law__1281 ?_
  rintro r4 P4 s4 ⟨e6, e7, e8⟩
  rw [e6, e7, e8]
  dsimp only [Option.toList, List.cons_append, List.nil_append]
  refine hB bL_law__1284 _ _ _ _ _ _ _ kL_law__1284 ?_
  dsimp only [bL_law__1284, kx_wp, kx_step, kx_lI, kx_lL, kx_lA, kx_gl, kx_pI, kx_pL, kx_pR, kx_pA, kx_pV, kx_s1, kx_s2, kx_sl, kx_pre, kx_c2, kx_pl, kx_cmp, kx_oF, kx_eqN, kx_nil, kx_c1, kx_ft, kx_aI, kx_aL, kx_aR, kx_ln, Nat.reduceAdd, Option.toList, List.cons_append, List.nil_append]
  repeat (simp only [e1x, c1x, e2x, c2x, e3x, c3x, e4x, c4x, e5x, c5x, h143b, hc0]; try dsimp only [kx_wp, kx_step, kx_lI, kx_lL, kx_lA, kx_gl, kx_pI, kx_pL, kx_pR, kx_pA, kx_pV, kx_s1, kx_s2, kx_sl, kx_pre, kx_c2, kx_pl, kx_cmp, kx_oF, kx_eqN, kx_nil, kx_c1, kx_ft, kx_aI, kx_aL, kx_aR, kx_ln, Nat.reduceAdd, Option.toList, List.cons_append, List.nil_append])
  repeat' apply And.intro
  all_goals try (first | with_reducible assumption | (with_reducible refine ck_nzI ?_; simp; done) | (with_reducible refine ck_nzL ?_; simp; done) | (with_reducible refine vp_in_nI ?_ ?_ <;> first | omega | decide) | (with_reducible refine Nat.le_of_ble_eq_true ?_; rfl) | omega | (unfold vp_in; decide))
  · intro zc1286
    refine hB bL_law__1291 _ _ _ _ _ _ _ kL_law__1291 ?_
    dsimp only [bL_law__1291, kx_wp, kx_step, kx_lI, kx_lL, kx_lA, kx_gl, kx_pI, kx_pL, kx_pR, kx_pA, kx_pV, kx_s1, kx_s2, kx_sl, kx_pre, kx_c2, kx_pl, kx_cmp, kx_oF, kx_eqN, kx_nil, kx_c1, kx_ft, kx_aI, kx_aL, kx_aR, kx_ln, Nat.reduceAdd, Option.toList, List.cons_append, List.nil_append]
    repeat (simp only [e1x, c1x, e2x, c2x, e3x, c3x, e4x, c4x, e5x, c5x, h143b, hc0]; try dsimp only [kx_wp, kx_step, kx_lI, kx_lL, kx_lA, kx_gl, kx_pI, kx_pL, kx_pR, kx_pA, kx_pV, kx_s1, kx_s2, kx_sl, kx_pre, kx_c2, kx_pl, kx_cmp, kx_oF, kx_eqN, kx_nil, kx_c1, kx_ft, kx_aI, kx_aL, kx_aR, kx_ln, Nat.reduceAdd, Option.toList, List.cons_append, List.nil_append])
    repeat' apply And.intro
    all_goals try (first | with_reducible assumption | (with_reducible refine ck_nzI ?_; simp; done) | (with_reducible refine ck_nzL ?_; simp; done) | (with_reducible refine vp_in_nI ?_ ?_ <;> first | omega | decide) | (with_reducible refine Nat.le_of_ble_eq_true ?_; rfl) | omega | (unfold vp_in; decide))
    · intro zc1293
      refine hB bL_law__1308 _ _ _ _ _ _ _ kL_law__1308 ?_
      dsimp only [bL_law__1308, kx_wp, kx_step, kx_lI, kx_lL, kx_lA, kx_gl, kx_pI, kx_pL, kx_pR, kx_pA, kx_pV, kx_s1, kx_s2, kx_sl, kx_pre, kx_c2, kx_pl, kx_cmp, kx_oF, kx_eqN, kx_nil, kx_c1, kx_ft, kx_aI, kx_aL, kx_aR, kx_ln, Nat.reduceAdd, Option.toList, List.cons_append, List.nil_append]
      repeat (simp only [e1x, c1x, e2x, c2x, e3x, c3x, e4x, c4x, e5x, c5x, h143b, hc0]; try dsimp only [kx_wp, kx_step, kx_lI, kx_lL, kx_lA, kx_gl, kx_pI, kx_pL, kx_pR, kx_pA, kx_pV, kx_s1, kx_s2, kx_sl, kx_pre, kx_c2, kx_pl, kx_cmp, kx_oF, kx_eqN, kx_nil, kx_c1, kx_ft, kx_aI, kx_aL, kx_aR, kx_ln, Nat.reduceAdd, Option.toList, List.cons_append, List.nil_append])
      repeat' apply And.intro
      all_goals try (first | with_reducible assumption | (with_reducible refine ck_nzI ?_; simp; done) | (with_reducible refine ck_nzL ?_; simp; done) | (with_reducible refine vp_in_nI ?_ ?_ <;> first | omega | decide) | (with_reducible refine Nat.le_of_ble_eq_true ?_; rfl) | omega | (unfold vp_in; decide))
      exact hgo P3 s2 S2 cl1 mi1 se1 bl1 go2 _ _ _ _ _ hI h34 h143b (by omega) (by omega) (by omega)
    · intro zc1293
      refine hB bL_law__1296 _ _ _ _ _ _ _ kL_law__1296 ?_
      dsimp only [bL_law__1296, kx_wp, kx_step, kx_lI, kx_lL, kx_lA, kx_gl, kx_pI, kx_pL, kx_pR, kx_pA, kx_pV, kx_s1, kx_s2, kx_sl, kx_pre, kx_c2, kx_pl, kx_cmp, kx_oF, kx_eqN, kx_nil, kx_c1, kx_ft, kx_aI, kx_aL, kx_aR, kx_ln, Nat.reduceAdd, Option.toList, List.cons_append, List.nil_append]
      repeat (simp only [e1x, c1x, e2x, c2x, e3x, c3x, e4x, c4x, e5x, c5x, h143b, hc0]; try dsimp only [kx_wp, kx_step, kx_lI, kx_lL, kx_lA, kx_gl, kx_pI, kx_pL, kx_pR, kx_pA, kx_pV, kx_s1, kx_s2, kx_sl, kx_pre, kx_c2, kx_pl, kx_cmp, kx_oF, kx_eqN, kx_nil, kx_c1, kx_ft, kx_aI, kx_aL, kx_aR, kx_ln, Nat.reduceAdd, Option.toList, List.cons_append, List.nil_append])
      repeat' apply And.intro
      all_goals try (first | with_reducible assumption | (with_reducible refine ck_nzI ?_; simp; done) | (with_reducible refine ck_nzL ?_; simp; done) | (with_reducible refine vp_in_nI ?_ ?_ <;> first | omega | decide) | (with_reducible refine Nat.le_of_ble_eq_true ?_; rfl) | omega | (unfold vp_in; decide))
      · intro zc1303
        refine hB bL_law__1308 _ _ _ _ _ _ _ kL_law__1308 ?_
        dsimp only [bL_law__1308, kx_wp, kx_step, kx_lI, kx_lL, kx_lA, kx_gl, kx_pI, kx_pL, kx_pR, kx_pA, kx_pV, kx_s1, kx_s2, kx_sl, kx_pre, kx_c2, kx_pl, kx_cmp, kx_oF, kx_eqN, kx_nil, kx_c1, kx_ft, kx_aI, kx_aL, kx_aR, kx_ln, Nat.reduceAdd, Option.toList, List.cons_append, List.nil_append]
        repeat (simp only [e1x, c1x, e2x, c2x, e3x, c3x, e4x, c4x, e5x, c5x, h143b, hc0]; try dsimp only [kx_wp, kx_step, kx_lI, kx_lL, kx_lA, kx_gl, kx_pI, kx_pL, kx_pR, kx_pA, kx_pV, kx_s1, kx_s2, kx_sl, kx_pre, kx_c2, kx_pl, kx_cmp, kx_oF, kx_eqN, kx_nil, kx_c1, kx_ft, kx_aI, kx_aL, kx_aR, kx_ln, Nat.reduceAdd, Option.toList, List.cons_append, List.nil_append])
        repeat' apply And.intro
        all_goals try (first | with_reducible assumption | (with_reducible refine ck_nzI ?_; simp; done) | (with_reducible refine ck_nzL ?_; simp; done) | (with_reducible refine vp_in_nI ?_ ?_ <;> first | omega | decide) | (with_reducible refine Nat.le_of_ble_eq_true ?_; rfl) | omega | (unfold vp_in; decide))
        exact hgo P3 s2 S2 cl1 mi1 se1 bl1 go2 _ _ _ _ _ hI h34 h143b (by omega) (by omega) (by omega)
      · intro zc1303
        first | exact absurd rfl zc1303 | exact absurd zc1303 (by decide) | exact absurd (by decide) zc1303 | (exfalso; first | exact zc1303 (by rw [hgo0 (Decidable.not_not.mp zc1293)]; exact lg_cmp_s _)) | (exfalso; simp_all; done)
  · intro zc1286
    first | exact absurd rfl zc1286 | exact absurd zc1286 (by decide) | exact absurd (by decide) zc1286 | (exfalso; first | exact zc1303 (by rw [hgo0 (Decidable.not_not.mp zc1293)]; exact lg_cmp_s _)) | (exfalso; simp_all; done)

set_option maxRecDepth 100000 in
set_option maxHeartbeats 4000000 in
theorem cj_sounding (l : Launch) (G : kx_G) (hst : l.stackTraces = false) {P : kx_P} {sz : Nat} {M : Nat → Int32} {A : Nat → Nat → Int32} {L : Nat → Nat → Int64} {cl mi se : Nat} {bl : Nat → Nat} {go : Nat → Int64} {Ln i k n : Nat} {xs : Nat → Int32} {o5 o6 o7 : Option Value} {g : kx_F} (h : cI P sz (M, A, L) cl mi se bl) (h3 : P 3 = kI 5 Ln xs) (h143 : P 143 = kL 1 go) (hi : i + 6 ≤ Ln) (hL : Ln ≤ 3072) (hk : k + 8 ≤ 601024) (hn : n + cro bl + 2206 ≤ 7293033) (hse : se ≤ 999) (hB : kx_rB kxL_L false cL_law_ 601024 7293033 (fun r _ _ => r = some (.int 1)) g) (hN : kx_rN l G RL cL_law_ 60 601024 7293033 g) (hW : kx_rW l G RL cL_law_ 60 601024 7293033 g) (hgo : cAf g Ln xs i se k n bl) : g 1311 [some (.ref 3), some (.ref 64), some (.ref 93), some (.ref 143), some (.int (nI i)), o5, o6, o7] [] P sz k n := by
  have e1x : nI i + 1 = nI (i + 1) := by rw [show (1 : Int32) = nI 1 from rfl, nI_add]
  have c1x : (nI (i + 1)).toNatClampNeg = i + 1 := nI_clamp (by omega)
  have e2x : nI i + 2 = nI (i + 2) := by rw [show (2 : Int32) = nI 2 from rfl, nI_add]
  have c2x : (nI (i + 2)).toNatClampNeg = i + 2 := nI_clamp (by omega)
  have e3x : nI i + 3 = nI (i + 3) := by rw [show (3 : Int32) = nI 3 from rfl, nI_add]
  have c3x : (nI (i + 3)).toNatClampNeg = i + 3 := nI_clamp (by omega)
  have e4x : nI i + 4 = nI (i + 4) := by rw [show (4 : Int32) = nI 4 from rfl, nI_add]
  have c4x : (nI (i + 4)).toNatClampNeg = i + 4 := nI_clamp (by omega)
  have e5x : nI i + 5 = nI (i + 5) := by rw [show (5 : Int32) = nI 5 from rfl, nI_add]
  have c5x : (nI (i + 5)).toNatClampNeg = i + 5 := nI_clamp (by omega)
  have hc0 : (0 : Int32).toNatClampNeg = 0 := rfl
  obtain ⟨f64, h64⟩ := cI_k64 h
  have hs := cs_sounding l G hst h (xs (i + 1)) (xs (i + 2))
  obtain ⟨k9, dw, dm, mc, ms, cl1, mi1, se1, bl1, Q, q1, q2, q3, q4, q5, hw, hmo⟩ := cSs.s (yw := sL_sounding) (hh := hL_sounding) (Aw := [.ref 64, .int (xs (i + 1)), .int (xs (i + 2)), .ref 143]) h h143 hs (fun d mc ms Po => cw_sounding_t l G h64) (fun p hp => by
    simp only [List.mem_cons, List.not_mem_nil, or_false] at hp
    rcases hp with rfl
    · exact ⟨by decide, fun d => cw_sounding_x0 l G h64⟩)
  refine hB bL_law__1311 _ _ _ _ _ _ _ kL_law__1311 ?_
  dsimp only [bL_law__1311, kx_wp, kx_step, kx_lI, kx_lL, kx_lA, kx_gl, kx_pI, kx_pL, kx_pR, kx_pA, kx_pV, kx_s1, kx_s2, kx_sl, kx_pre, kx_c2, kx_pl, kx_cmp, kx_oF, kx_eqN, kx_nil, kx_c1, kx_ft, kx_aI, kx_aL, kx_aR, kx_ln, Nat.reduceAdd, Option.toList, List.cons_append, List.nil_append]
  repeat (simp only [e1x, c1x, e2x, c2x, e3x, c3x, e4x, c4x, e5x, c5x, h3]; try dsimp only [kx_wp, kx_step, kx_lI, kx_lL, kx_lA, kx_gl, kx_pI, kx_pL, kx_pR, kx_pA, kx_pV, kx_s1, kx_s2, kx_sl, kx_pre, kx_c2, kx_pl, kx_cmp, kx_oF, kx_eqN, kx_nil, kx_c1, kx_ft, kx_aI, kx_aL, kx_aR, kx_ln, Nat.reduceAdd, Option.toList, List.cons_append, List.nil_append])
  repeat' apply And.intro
  all_goals try (first | with_reducible assumption | (with_reducible refine ck_nzI ?_; simp; done) | (with_reducible refine ck_nzL ?_; simp; done) | (with_reducible refine vp_in_nI ?_ ?_ <;> first | omega | decide) | (with_reducible refine Nat.le_of_ble_eq_true ?_; rfl) | omega | (unfold vp_in; decide))
  refine hW 184 _ _ _ _ _ _ _ _ _ _ _ _ _ _ _ _ lL_184 hw rfl rfl (Nat.le_of_ble_eq_true rfl) (by omega) (by decide) (by omega) (by omega) dL_law__1325 ?_
  rintro r2 P2 s2 ⟨e2, hQ⟩
  rw [e2]
  obtain ⟨⟨fm, h93⟩, h33, hM⟩ := hmo P2 s2 hQ
  have h33 := h33.trans h3
  dsimp only [Option.toList, List.cons_append, List.nil_append]
  refine hB bL_law__1328 _ _ _ _ _ _ _ kL_law__1328 ?_
  dsimp only [bL_law__1328, kx_wp, kx_step, kx_lI, kx_lL, kx_lA, kx_gl, kx_pI, kx_pL, kx_pR, kx_pA, kx_pV, kx_s1, kx_s2, kx_sl, kx_pre, kx_c2, kx_pl, kx_cmp, kx_oF, kx_eqN, kx_nil, kx_c1, kx_ft, kx_aI, kx_aL, kx_aR, kx_ln, Nat.reduceAdd, Option.toList, List.cons_append, List.nil_append]
  repeat (simp only [e1x, c1x, e2x, c2x, e3x, c3x, e4x, c4x, e5x, c5x, h33]; try dsimp only [kx_wp, kx_step, kx_lI, kx_lL, kx_lA, kx_gl, kx_pI, kx_pL, kx_pR, kx_pA, kx_pV, kx_s1, kx_s2, kx_sl, kx_pre, kx_c2, kx_pl, kx_cmp, kx_oF, kx_eqN, kx_nil, kx_c1, kx_ft, kx_aI, kx_aL, kx_aR, kx_ln, Nat.reduceAdd, Option.toList, List.cons_append, List.nil_append])
  repeat' apply And.intro
  all_goals try (first | with_reducible assumption | (with_reducible refine ck_nzI ?_; simp; done) | (with_reducible refine ck_nzL ?_; simp; done) | (with_reducible refine vp_in_nI ?_ ?_ <;> first | omega | decide) | (with_reducible refine Nat.le_of_ble_eq_true ?_; rfl) | omega | (unfold vp_in; decide))
  refine hN.1 186 _ _ _ _ _ _ _ 11 _ _ _ _ _ _ _ _ _ _ lL_186 hM ⟨by decide, rfl⟩ h93 rfl rfl (Nat.le_of_ble_eq_true rfl) (by omega) (by decide) (by omega) (by omega) dL_law__1343 ?_
  rintro r3 P3 s3 ⟨e3, v, S2, go2, e4, hT, hk0, hI, h34, h143b, hgo0⟩
  obtain ⟨b9, e5⟩ := hT.2 (by decide)
  subst e5
  rw [e3, e4]
  have h34 := h34.trans h3
  have h93b := cI_93 hI
  have hth := cI_th l G hI
  rw [hk0] at hth
  dsimp only [Option.toList, List.cons_append, List.nil_append]
  refine hB bL_law__1346 _ _ _ _ _ _ _ kL_law__1346 ?_
  dsimp only [bL_law__1346, kx_wp, kx_step, kx_lI, kx_lL, kx_lA, kx_gl, kx_pI, kx_pL, kx_pR, kx_pA, kx_pV, kx_s1, kx_s2, kx_sl, kx_pre, kx_c2, kx_pl, kx_cmp, kx_oF, kx_eqN, kx_nil, kx_c1, kx_ft, kx_aI, kx_aL, kx_aR, kx_ln, Nat.reduceAdd, Option.toList, List.cons_append, List.nil_append]
  repeat (simp only [e1x, c1x, e2x, c2x, e3x, c3x, e4x, c4x, e5x, c5x, h143b, hc0]; try dsimp only [kx_wp, kx_step, kx_lI, kx_lL, kx_lA, kx_gl, kx_pI, kx_pL, kx_pR, kx_pA, kx_pV, kx_s1, kx_s2, kx_sl, kx_pre, kx_c2, kx_pl, kx_cmp, kx_oF, kx_eqN, kx_nil, kx_c1, kx_ft, kx_aI, kx_aL, kx_aR, kx_ln, Nat.reduceAdd, Option.toList, List.cons_append, List.nil_append])
  repeat' apply And.intro
  all_goals try (first | with_reducible assumption | (with_reducible refine ck_nzI ?_; simp; done) | (with_reducible refine ck_nzL ?_; simp; done) | (with_reducible refine vp_in_nI ?_ ?_ <;> first | omega | decide) | (with_reducible refine Nat.le_of_ble_eq_true ?_; rfl) | omega | (unfold vp_in; decide))
  refine hN.1 120 _ _ _ _ _ _ _ 11 _ _ _ _ _ _ _ _ _ _ lL_120 hth.n ⟨by decide, rfl⟩ h93b rfl rfl (Nat.le_of_ble_eq_true rfl) (by omega) (by decide) (by omega) (by omega) dL_law__1349 ?_
  rintro r4 P4 s4 ⟨e6, e7, e8⟩
  rw [e6, e7, e8]
  dsimp only [Option.toList, List.cons_append, List.nil_append]
  refine hB bL_law__1352 _ _ _ _ _ _ _ kL_law__1352 ?_
  dsimp only [bL_law__1352, kx_wp, kx_step, kx_lI, kx_lL, kx_lA, kx_gl, kx_pI, kx_pL, kx_pR, kx_pA, kx_pV, kx_s1, kx_s2, kx_sl, kx_pre, kx_c2, kx_pl, kx_cmp, kx_oF, kx_eqN, kx_nil, kx_c1, kx_ft, kx_aI, kx_aL, kx_aR, kx_ln, Nat.reduceAdd, Option.toList, List.cons_append, List.nil_append]
  repeat (simp only [e1x, c1x, e2x, c2x, e3x, c3x, e4x, c4x, e5x, c5x, h143b, hc0]; try dsimp only [kx_wp, kx_step, kx_lI, kx_lL, kx_lA, kx_gl, kx_pI, kx_pL, kx_pR, kx_pA, kx_pV, kx_s1, kx_s2, kx_sl, kx_pre, kx_c2, kx_pl, kx_cmp, kx_oF, kx_eqN, kx_nil, kx_c1, kx_ft, kx_aI, kx_aL, kx_aR, kx_ln, Nat.reduceAdd, Option.toList, List.cons_append, List.nil_append])
  repeat' apply And.intro
  all_goals try (first | with_reducible assumption | (with_reducible refine ck_nzI ?_; simp; done) | (with_reducible refine ck_nzL ?_; simp; done) | (with_reducible refine vp_in_nI ?_ ?_ <;> first | omega | decide) | (with_reducible refine Nat.le_of_ble_eq_true ?_; rfl) | omega | (unfold vp_in; decide))
  · intro zc1354
    refine hB bL_law__1359 _ _ _ _ _ _ _ kL_law__1359 ?_
    dsimp only [bL_law__1359, kx_wp, kx_step, kx_lI, kx_lL, kx_lA, kx_gl, kx_pI, kx_pL, kx_pR, kx_pA, kx_pV, kx_s1, kx_s2, kx_sl, kx_pre, kx_c2, kx_pl, kx_cmp, kx_oF, kx_eqN, kx_nil, kx_c1, kx_ft, kx_aI, kx_aL, kx_aR, kx_ln, Nat.reduceAdd, Option.toList, List.cons_append, List.nil_append]
    repeat (simp only [e1x, c1x, e2x, c2x, e3x, c3x, e4x, c4x, e5x, c5x, h143b, hc0]; try dsimp only [kx_wp, kx_step, kx_lI, kx_lL, kx_lA, kx_gl, kx_pI, kx_pL, kx_pR, kx_pA, kx_pV, kx_s1, kx_s2, kx_sl, kx_pre, kx_c2, kx_pl, kx_cmp, kx_oF, kx_eqN, kx_nil, kx_c1, kx_ft, kx_aI, kx_aL, kx_aR, kx_ln, Nat.reduceAdd, Option.toList, List.cons_append, List.nil_append])
    repeat' apply And.intro
    all_goals try (first | with_reducible assumption | (with_reducible refine ck_nzI ?_; simp; done) | (with_reducible refine ck_nzL ?_; simp; done) | (with_reducible refine vp_in_nI ?_ ?_ <;> first | omega | decide) | (with_reducible refine Nat.le_of_ble_eq_true ?_; rfl) | omega | (unfold vp_in; decide))
    · intro zc1361
      refine hB bL_law__1376 _ _ _ _ _ _ _ kL_law__1376 ?_
      dsimp only [bL_law__1376, kx_wp, kx_step, kx_lI, kx_lL, kx_lA, kx_gl, kx_pI, kx_pL, kx_pR, kx_pA, kx_pV, kx_s1, kx_s2, kx_sl, kx_pre, kx_c2, kx_pl, kx_cmp, kx_oF, kx_eqN, kx_nil, kx_c1, kx_ft, kx_aI, kx_aL, kx_aR, kx_ln, Nat.reduceAdd, Option.toList, List.cons_append, List.nil_append]
      repeat (simp only [e1x, c1x, e2x, c2x, e3x, c3x, e4x, c4x, e5x, c5x, h143b, hc0]; try dsimp only [kx_wp, kx_step, kx_lI, kx_lL, kx_lA, kx_gl, kx_pI, kx_pL, kx_pR, kx_pA, kx_pV, kx_s1, kx_s2, kx_sl, kx_pre, kx_c2, kx_pl, kx_cmp, kx_oF, kx_eqN, kx_nil, kx_c1, kx_ft, kx_aI, kx_aL, kx_aR, kx_ln, Nat.reduceAdd, Option.toList, List.cons_append, List.nil_append])
      repeat' apply And.intro
      all_goals try (first | with_reducible assumption | (with_reducible refine ck_nzI ?_; simp; done) | (with_reducible refine ck_nzL ?_; simp; done) | (with_reducible refine vp_in_nI ?_ ?_ <;> first | omega | decide) | (with_reducible refine Nat.le_of_ble_eq_true ?_; rfl) | omega | (unfold vp_in; decide))
      exact hgo P3 s2 S2 cl1 mi1 se1 bl1 go2 _ _ _ _ _ hI h34 h143b (by omega) (by omega) (by omega)
    · intro zc1361
      refine hB bL_law__1364 _ _ _ _ _ _ _ kL_law__1364 ?_
      dsimp only [bL_law__1364, kx_wp, kx_step, kx_lI, kx_lL, kx_lA, kx_gl, kx_pI, kx_pL, kx_pR, kx_pA, kx_pV, kx_s1, kx_s2, kx_sl, kx_pre, kx_c2, kx_pl, kx_cmp, kx_oF, kx_eqN, kx_nil, kx_c1, kx_ft, kx_aI, kx_aL, kx_aR, kx_ln, Nat.reduceAdd, Option.toList, List.cons_append, List.nil_append]
      repeat (simp only [e1x, c1x, e2x, c2x, e3x, c3x, e4x, c4x, e5x, c5x, h143b, hc0]; try dsimp only [kx_wp, kx_step, kx_lI, kx_lL, kx_lA, kx_gl, kx_pI, kx_pL, kx_pR, kx_pA, kx_pV, kx_s1, kx_s2, kx_sl, kx_pre, kx_c2, kx_pl, kx_cmp, kx_oF, kx_eqN, kx_nil, kx_c1, kx_ft, kx_aI, kx_aL, kx_aR, kx_ln, Nat.reduceAdd, Option.toList, List.cons_append, List.nil_append])
      repeat' apply And.intro
      all_goals try (first | with_reducible assumption | (with_reducible refine ck_nzI ?_; simp; done) | (with_reducible refine ck_nzL ?_; simp; done) | (with_reducible refine vp_in_nI ?_ ?_ <;> first | omega | decide) | (with_reducible refine Nat.le_of_ble_eq_true ?_; rfl) | omega | (unfold vp_in; decide))
      · intro zc1371
        refine hB bL_law__1376 _ _ _ _ _ _ _ kL_law__1376 ?_
        dsimp only [bL_law__1376, kx_wp, kx_step, kx_lI, kx_lL, kx_lA, kx_gl, kx_pI, kx_pL, kx_pR, kx_pA, kx_pV, kx_s1, kx_s2, kx_sl, kx_pre, kx_c2, kx_pl, kx_cmp, kx_oF, kx_eqN, kx_nil, kx_c1, kx_ft, kx_aI, kx_aL, kx_aR, kx_ln, Nat.reduceAdd, Option.toList, List.cons_append, List.nil_append]
        repeat (simp only [e1x, c1x, e2x, c2x, e3x, c3x, e4x, c4x, e5x, c5x, h143b, hc0]; try dsimp only [kx_wp, kx_step, kx_lI, kx_lL, kx_lA, kx_gl, kx_pI, kx_pL, kx_pR, kx_pA, kx_pV, kx_s1, kx_s2, kx_sl, kx_pre, kx_c2, kx_pl, kx_cmp, kx_oF, kx_eqN, kx_nil, kx_c1, kx_ft, kx_aI, kx_aL, kx_aR, kx_ln, Nat.reduceAdd, Option.toList, List.cons_append, List.nil_append])
        repeat' apply And.intro
        all_goals try (first | with_reducible assumption | (with_reducible refine ck_nzI ?_; simp; done) | (with_reducible refine ck_nzL ?_; simp; done) | (with_reducible refine vp_in_nI ?_ ?_ <;> first | omega | decide) | (with_reducible refine Nat.le_of_ble_eq_true ?_; rfl) | omega | (unfold vp_in; decide))
        exact hgo P3 s2 S2 cl1 mi1 se1 bl1 go2 _ _ _ _ _ hI h34 h143b (by omega) (by omega) (by omega)
      · intro zc1371
        first | exact absurd rfl zc1371 | exact absurd zc1371 (by decide) | exact absurd (by decide) zc1371 | (exfalso; first | exact zc1371 (by rw [hgo0 (Decidable.not_not.mp zc1361)]; exact lg_cmp_s _)) | (exfalso; simp_all; done)
  · intro zc1354
    first | exact absurd rfl zc1354 | exact absurd zc1354 (by decide) | exact absurd (by decide) zc1354 | (exfalso; first | exact zc1371 (by rw [hgo0 (Decidable.not_not.mp zc1361)]; exact lg_cmp_s _)) | (exfalso; simp_all; done)

set_option maxRecDepth 100000 in
set_option maxHeartbeats 4000000 in
theorem cj_heard (l : Launch) (G : kx_G) (hst : l.stackTraces = false) {P : kx_P} {sz : Nat} {M : Nat → Int32} {A : Nat → Nat → Int32} {L : Nat → Nat → Int64} {cl mi se : Nat} {bl : Nat → Nat} {go : Nat → Int64} {Ln i k n : Nat} {xs : Nat → Int32} {o5 o6 o7 : Option Value} {g : kx_F} (h : cI P sz (M, A, L) cl mi se bl) (h3 : P 3 = kI 5 Ln xs) (h143 : P 143 = kL 1 go) (hi : i + 6 ≤ Ln) (hL : Ln ≤ 3072) (hk : k + 8 ≤ 601024) (hn : n + cro bl + 2206 ≤ 7293033) (hse : se ≤ 999) (hB : kx_rB kxL_L false cL_law_ 601024 7293033 (fun r _ _ => r = some (.int 1)) g) (hN : kx_rN l G RL cL_law_ 60 601024 7293033 g) (hW : kx_rW l G RL cL_law_ 60 601024 7293033 g) (hgo : cAf g Ln xs i se k n bl) : g 1379 [some (.ref 3), some (.ref 64), some (.ref 93), some (.ref 143), some (.int (nI i)), o5, o6, o7] [] P sz k n := by
  have e1x : nI i + 1 = nI (i + 1) := by rw [show (1 : Int32) = nI 1 from rfl, nI_add]
  have c1x : (nI (i + 1)).toNatClampNeg = i + 1 := nI_clamp (by omega)
  have e2x : nI i + 2 = nI (i + 2) := by rw [show (2 : Int32) = nI 2 from rfl, nI_add]
  have c2x : (nI (i + 2)).toNatClampNeg = i + 2 := nI_clamp (by omega)
  have e3x : nI i + 3 = nI (i + 3) := by rw [show (3 : Int32) = nI 3 from rfl, nI_add]
  have c3x : (nI (i + 3)).toNatClampNeg = i + 3 := nI_clamp (by omega)
  have e4x : nI i + 4 = nI (i + 4) := by rw [show (4 : Int32) = nI 4 from rfl, nI_add]
  have c4x : (nI (i + 4)).toNatClampNeg = i + 4 := nI_clamp (by omega)
  have e5x : nI i + 5 = nI (i + 5) := by rw [show (5 : Int32) = nI 5 from rfl, nI_add]
  have c5x : (nI (i + 5)).toNatClampNeg = i + 5 := nI_clamp (by omega)
  have hc0 : (0 : Int32).toNatClampNeg = 0 := rfl
  obtain ⟨f64, h64⟩ := cI_k64 h
  have hs := cs_heard l G hst h (xs (i + 1)) (xs (i + 2)) (xs (i + 3)) (xs (i + 4))
  obtain ⟨k9, dw, dm, mc, ms, cl1, mi1, se1, bl1, Q, q1, q2, q3, q4, q5, hw, hmo⟩ := cSs.s (yw := sL_heard) (hh := hL_heard) (Aw := [.ref 64, .int (xs (i + 1)), .int (xs (i + 2)), .int (xs (i + 3)), .int (xs (i + 4)), .ref 143]) h h143 hs (fun d mc ms Po => cw_heard_t l G h64) (fun p hp => by
    simp only [List.mem_cons, List.not_mem_nil, or_false] at hp
    rcases hp with rfl
    · exact ⟨by decide, fun d => cw_heard_x0 l G h64⟩)
  refine hB bL_law__1379 _ _ _ _ _ _ _ kL_law__1379 ?_
  dsimp only [bL_law__1379, kx_wp, kx_step, kx_lI, kx_lL, kx_lA, kx_gl, kx_pI, kx_pL, kx_pR, kx_pA, kx_pV, kx_s1, kx_s2, kx_sl, kx_pre, kx_c2, kx_pl, kx_cmp, kx_oF, kx_eqN, kx_nil, kx_c1, kx_ft, kx_aI, kx_aL, kx_aR, kx_ln, Nat.reduceAdd, Option.toList, List.cons_append, List.nil_append]
  repeat (simp only [e1x, c1x, e2x, c2x, e3x, c3x, e4x, c4x, e5x, c5x, h3]; try dsimp only [kx_wp, kx_step, kx_lI, kx_lL, kx_lA, kx_gl, kx_pI, kx_pL, kx_pR, kx_pA, kx_pV, kx_s1, kx_s2, kx_sl, kx_pre, kx_c2, kx_pl, kx_cmp, kx_oF, kx_eqN, kx_nil, kx_c1, kx_ft, kx_aI, kx_aL, kx_aR, kx_ln, Nat.reduceAdd, Option.toList, List.cons_append, List.nil_append])
  repeat' apply And.intro
  all_goals try (first | with_reducible assumption | (with_reducible refine ck_nzI ?_; simp; done) | (with_reducible refine ck_nzL ?_; simp; done) | (with_reducible refine vp_in_nI ?_ ?_ <;> first | omega | decide) | (with_reducible refine Nat.le_of_ble_eq_true ?_; rfl) | omega | (unfold vp_in; decide))
  refine hW 187 _ _ _ _ _ _ _ _ _ _ _ _ _ _ _ _ lL_187 hw rfl rfl (Nat.le_of_ble_eq_true rfl) (by omega) (by decide) (by omega) (by omega) dL_law__1405 ?_
  rintro r2 P2 s2 ⟨e2, hQ⟩
  rw [e2]
  obtain ⟨⟨fm, h93⟩, h33, hM⟩ := hmo P2 s2 hQ
  have h33 := h33.trans h3
  dsimp only [Option.toList, List.cons_append, List.nil_append]
  refine hB bL_law__1408 _ _ _ _ _ _ _ kL_law__1408 ?_
  dsimp only [bL_law__1408, kx_wp, kx_step, kx_lI, kx_lL, kx_lA, kx_gl, kx_pI, kx_pL, kx_pR, kx_pA, kx_pV, kx_s1, kx_s2, kx_sl, kx_pre, kx_c2, kx_pl, kx_cmp, kx_oF, kx_eqN, kx_nil, kx_c1, kx_ft, kx_aI, kx_aL, kx_aR, kx_ln, Nat.reduceAdd, Option.toList, List.cons_append, List.nil_append]
  repeat (simp only [e1x, c1x, e2x, c2x, e3x, c3x, e4x, c4x, e5x, c5x, h33]; try dsimp only [kx_wp, kx_step, kx_lI, kx_lL, kx_lA, kx_gl, kx_pI, kx_pL, kx_pR, kx_pA, kx_pV, kx_s1, kx_s2, kx_sl, kx_pre, kx_c2, kx_pl, kx_cmp, kx_oF, kx_eqN, kx_nil, kx_c1, kx_ft, kx_aI, kx_aL, kx_aR, kx_ln, Nat.reduceAdd, Option.toList, List.cons_append, List.nil_append])
  repeat' apply And.intro
  all_goals try (first | with_reducible assumption | (with_reducible refine ck_nzI ?_; simp; done) | (with_reducible refine ck_nzL ?_; simp; done) | (with_reducible refine vp_in_nI ?_ ?_ <;> first | omega | decide) | (with_reducible refine Nat.le_of_ble_eq_true ?_; rfl) | omega | (unfold vp_in; decide))
  refine hN.1 190 _ _ _ _ _ _ _ 11 _ _ _ _ _ _ _ _ _ _ lL_190 hM ⟨by decide, rfl⟩ h93 rfl rfl (Nat.le_of_ble_eq_true rfl) (by omega) (by decide) (by omega) (by omega) dL_law__1435 ?_
  rintro r3 P3 s3 ⟨e3, v, S2, go2, e4, hT, hk0, hI, h34, h143b, hgo0⟩
  obtain ⟨b9, e5⟩ := hT.2 (by decide)
  subst e5
  rw [e3, e4]
  have h34 := h34.trans h3
  have h93b := cI_93 hI
  have hth := cI_th l G hI
  rw [hk0] at hth
  dsimp only [Option.toList, List.cons_append, List.nil_append]
  refine hB bL_law__1438 _ _ _ _ _ _ _ kL_law__1438 ?_
  dsimp only [bL_law__1438, kx_wp, kx_step, kx_lI, kx_lL, kx_lA, kx_gl, kx_pI, kx_pL, kx_pR, kx_pA, kx_pV, kx_s1, kx_s2, kx_sl, kx_pre, kx_c2, kx_pl, kx_cmp, kx_oF, kx_eqN, kx_nil, kx_c1, kx_ft, kx_aI, kx_aL, kx_aR, kx_ln, Nat.reduceAdd, Option.toList, List.cons_append, List.nil_append]
  repeat (simp only [e1x, c1x, e2x, c2x, e3x, c3x, e4x, c4x, e5x, c5x, h143b, hc0]; try dsimp only [kx_wp, kx_step, kx_lI, kx_lL, kx_lA, kx_gl, kx_pI, kx_pL, kx_pR, kx_pA, kx_pV, kx_s1, kx_s2, kx_sl, kx_pre, kx_c2, kx_pl, kx_cmp, kx_oF, kx_eqN, kx_nil, kx_c1, kx_ft, kx_aI, kx_aL, kx_aR, kx_ln, Nat.reduceAdd, Option.toList, List.cons_append, List.nil_append])
  repeat' apply And.intro
  all_goals try (first | with_reducible assumption | (with_reducible refine ck_nzI ?_; simp; done) | (with_reducible refine ck_nzL ?_; simp; done) | (with_reducible refine vp_in_nI ?_ ?_ <;> first | omega | decide) | (with_reducible refine Nat.le_of_ble_eq_true ?_; rfl) | omega | (unfold vp_in; decide))
  refine hN.1 120 _ _ _ _ _ _ _ 11 _ _ _ _ _ _ _ _ _ _ lL_120 hth.n ⟨by decide, rfl⟩ h93b rfl rfl (Nat.le_of_ble_eq_true rfl) (by omega) (by decide) (by omega) (by omega) dL_law__1441 ?_
  rintro r4 P4 s4 ⟨e6, e7, e8⟩
  rw [e6, e7, e8]
  dsimp only [Option.toList, List.cons_append, List.nil_append]
  refine hB bL_law__1444 _ _ _ _ _ _ _ kL_law__1444 ?_
  dsimp only [bL_law__1444, kx_wp, kx_step, kx_lI, kx_lL, kx_lA, kx_gl, kx_pI, kx_pL, kx_pR, kx_pA, kx_pV, kx_s1, kx_s2, kx_sl, kx_pre, kx_c2, kx_pl, kx_cmp, kx_oF, kx_eqN, kx_nil, kx_c1, kx_ft, kx_aI, kx_aL, kx_aR, kx_ln, Nat.reduceAdd, Option.toList, List.cons_append, List.nil_append]
  repeat (simp only [e1x, c1x, e2x, c2x, e3x, c3x, e4x, c4x, e5x, c5x, h143b, hc0]; try dsimp only [kx_wp, kx_step, kx_lI, kx_lL, kx_lA, kx_gl, kx_pI, kx_pL, kx_pR, kx_pA, kx_pV, kx_s1, kx_s2, kx_sl, kx_pre, kx_c2, kx_pl, kx_cmp, kx_oF, kx_eqN, kx_nil, kx_c1, kx_ft, kx_aI, kx_aL, kx_aR, kx_ln, Nat.reduceAdd, Option.toList, List.cons_append, List.nil_append])
  repeat' apply And.intro
  all_goals try (first | with_reducible assumption | (with_reducible refine ck_nzI ?_; simp; done) | (with_reducible refine ck_nzL ?_; simp; done) | (with_reducible refine vp_in_nI ?_ ?_ <;> first | omega | decide) | (with_reducible refine Nat.le_of_ble_eq_true ?_; rfl) | omega | (unfold vp_in; decide))
  · intro zc1446
    refine hB bL_law__1451 _ _ _ _ _ _ _ kL_law__1451 ?_
    dsimp only [bL_law__1451, kx_wp, kx_step, kx_lI, kx_lL, kx_lA, kx_gl, kx_pI, kx_pL, kx_pR, kx_pA, kx_pV, kx_s1, kx_s2, kx_sl, kx_pre, kx_c2, kx_pl, kx_cmp, kx_oF, kx_eqN, kx_nil, kx_c1, kx_ft, kx_aI, kx_aL, kx_aR, kx_ln, Nat.reduceAdd, Option.toList, List.cons_append, List.nil_append]
    repeat (simp only [e1x, c1x, e2x, c2x, e3x, c3x, e4x, c4x, e5x, c5x, h143b, hc0]; try dsimp only [kx_wp, kx_step, kx_lI, kx_lL, kx_lA, kx_gl, kx_pI, kx_pL, kx_pR, kx_pA, kx_pV, kx_s1, kx_s2, kx_sl, kx_pre, kx_c2, kx_pl, kx_cmp, kx_oF, kx_eqN, kx_nil, kx_c1, kx_ft, kx_aI, kx_aL, kx_aR, kx_ln, Nat.reduceAdd, Option.toList, List.cons_append, List.nil_append])
    repeat' apply And.intro
    all_goals try (first | with_reducible assumption | (with_reducible refine ck_nzI ?_; simp; done) | (with_reducible refine ck_nzL ?_; simp; done) | (with_reducible refine vp_in_nI ?_ ?_ <;> first | omega | decide) | (with_reducible refine Nat.le_of_ble_eq_true ?_; rfl) | omega | (unfold vp_in; decide))
    · intro zc1453
      refine hB bL_law__1468 _ _ _ _ _ _ _ kL_law__1468 ?_
      dsimp only [bL_law__1468, kx_wp, kx_step, kx_lI, kx_lL, kx_lA, kx_gl, kx_pI, kx_pL, kx_pR, kx_pA, kx_pV, kx_s1, kx_s2, kx_sl, kx_pre, kx_c2, kx_pl, kx_cmp, kx_oF, kx_eqN, kx_nil, kx_c1, kx_ft, kx_aI, kx_aL, kx_aR, kx_ln, Nat.reduceAdd, Option.toList, List.cons_append, List.nil_append]
      repeat (simp only [e1x, c1x, e2x, c2x, e3x, c3x, e4x, c4x, e5x, c5x, h143b, hc0]; try dsimp only [kx_wp, kx_step, kx_lI, kx_lL, kx_lA, kx_gl, kx_pI, kx_pL, kx_pR, kx_pA, kx_pV, kx_s1, kx_s2, kx_sl, kx_pre, kx_c2, kx_pl, kx_cmp, kx_oF, kx_eqN, kx_nil, kx_c1, kx_ft, kx_aI, kx_aL, kx_aR, kx_ln, Nat.reduceAdd, Option.toList, List.cons_append, List.nil_append])
      repeat' apply And.intro
      all_goals try (first | with_reducible assumption | (with_reducible refine ck_nzI ?_; simp; done) | (with_reducible refine ck_nzL ?_; simp; done) | (with_reducible refine vp_in_nI ?_ ?_ <;> first | omega | decide) | (with_reducible refine Nat.le_of_ble_eq_true ?_; rfl) | omega | (unfold vp_in; decide))
      exact hgo P3 s2 S2 cl1 mi1 se1 bl1 go2 _ _ _ _ _ hI h34 h143b (by omega) (by omega) (by omega)
    · intro zc1453
      refine hB bL_law__1456 _ _ _ _ _ _ _ kL_law__1456 ?_
      dsimp only [bL_law__1456, kx_wp, kx_step, kx_lI, kx_lL, kx_lA, kx_gl, kx_pI, kx_pL, kx_pR, kx_pA, kx_pV, kx_s1, kx_s2, kx_sl, kx_pre, kx_c2, kx_pl, kx_cmp, kx_oF, kx_eqN, kx_nil, kx_c1, kx_ft, kx_aI, kx_aL, kx_aR, kx_ln, Nat.reduceAdd, Option.toList, List.cons_append, List.nil_append]
      repeat (simp only [e1x, c1x, e2x, c2x, e3x, c3x, e4x, c4x, e5x, c5x, h143b, hc0]; try dsimp only [kx_wp, kx_step, kx_lI, kx_lL, kx_lA, kx_gl, kx_pI, kx_pL, kx_pR, kx_pA, kx_pV, kx_s1, kx_s2, kx_sl, kx_pre, kx_c2, kx_pl, kx_cmp, kx_oF, kx_eqN, kx_nil, kx_c1, kx_ft, kx_aI, kx_aL, kx_aR, kx_ln, Nat.reduceAdd, Option.toList, List.cons_append, List.nil_append])
      repeat' apply And.intro
      all_goals try (first | with_reducible assumption | (with_reducible refine ck_nzI ?_; simp; done) | (with_reducible refine ck_nzL ?_; simp; done) | (with_reducible refine vp_in_nI ?_ ?_ <;> first | omega | decide) | (with_reducible refine Nat.le_of_ble_eq_true ?_; rfl) | omega | (unfold vp_in; decide))
      · intro zc1463
        refine hB bL_law__1468 _ _ _ _ _ _ _ kL_law__1468 ?_
        dsimp only [bL_law__1468, kx_wp, kx_step, kx_lI, kx_lL, kx_lA, kx_gl, kx_pI, kx_pL, kx_pR, kx_pA, kx_pV, kx_s1, kx_s2, kx_sl, kx_pre, kx_c2, kx_pl, kx_cmp, kx_oF, kx_eqN, kx_nil, kx_c1, kx_ft, kx_aI, kx_aL, kx_aR, kx_ln, Nat.reduceAdd, Option.toList, List.cons_append, List.nil_append]
        repeat (simp only [e1x, c1x, e2x, c2x, e3x, c3x, e4x, c4x, e5x, c5x, h143b, hc0]; try dsimp only [kx_wp, kx_step, kx_lI, kx_lL, kx_lA, kx_gl, kx_pI, kx_pL, kx_pR, kx_pA, kx_pV, kx_s1, kx_s2, kx_sl, kx_pre, kx_c2, kx_pl, kx_cmp, kx_oF, kx_eqN, kx_nil, kx_c1, kx_ft, kx_aI, kx_aL, kx_aR, kx_ln, Nat.reduceAdd, Option.toList, List.cons_append, List.nil_append])
        repeat' apply And.intro
        all_goals try (first | with_reducible assumption | (with_reducible refine ck_nzI ?_; simp; done) | (with_reducible refine ck_nzL ?_; simp; done) | (with_reducible refine vp_in_nI ?_ ?_ <;> first | omega | decide) | (with_reducible refine Nat.le_of_ble_eq_true ?_; rfl) | omega | (unfold vp_in; decide))
        exact hgo P3 s2 S2 cl1 mi1 se1 bl1 go2 _ _ _ _ _ hI h34 h143b (by omega) (by omega) (by omega)
      · intro zc1463
        first | exact absurd rfl zc1463 | exact absurd zc1463 (by decide) | exact absurd (by decide) zc1463 | (exfalso; first | exact zc1463 (by rw [hgo0 (Decidable.not_not.mp zc1453)]; exact lg_cmp_s _)) | (exfalso; simp_all; done)
  · intro zc1446
    first | exact absurd rfl zc1446 | exact absurd zc1446 (by decide) | exact absurd (by decide) zc1446 | (exfalso; first | exact zc1463 (by rw [hgo0 (Decidable.not_not.mp zc1453)]; exact lg_cmp_s _)) | (exfalso; simp_all; done)

set_option maxRecDepth 100000 in
set_option maxHeartbeats 4000000 in
theorem cj_witness (l : Launch) (G : kx_G) (hst : l.stackTraces = false) {P : kx_P} {sz : Nat} {M : Nat → Int32} {A : Nat → Nat → Int32} {L : Nat → Nat → Int64} {cl mi se : Nat} {bl : Nat → Nat} {go : Nat → Int64} {Ln i k n : Nat} {xs : Nat → Int32} {o5 o6 o7 : Option Value} {g : kx_F} (h : cI P sz (M, A, L) cl mi se bl) (h3 : P 3 = kI 5 Ln xs) (h143 : P 143 = kL 1 go) (hi : i + 6 ≤ Ln) (hL : Ln ≤ 3072) (hk : k + 8 ≤ 601024) (hn : n + cro bl + 2206 ≤ 7293033) (hse : se ≤ 999) (hB : kx_rB kxL_L false cL_law_ 601024 7293033 (fun r _ _ => r = some (.int 1)) g) (hN : kx_rN l G RL cL_law_ 60 601024 7293033 g) (hW : kx_rW l G RL cL_law_ 60 601024 7293033 g) (hgo : cAf g Ln xs i se k n bl) : g 1471 [some (.ref 3), some (.ref 64), some (.ref 93), some (.ref 143), some (.int (nI i)), o5, o6, o7] [] P sz k n := by
  have e1x : nI i + 1 = nI (i + 1) := by rw [show (1 : Int32) = nI 1 from rfl, nI_add]
  have c1x : (nI (i + 1)).toNatClampNeg = i + 1 := nI_clamp (by omega)
  have e2x : nI i + 2 = nI (i + 2) := by rw [show (2 : Int32) = nI 2 from rfl, nI_add]
  have c2x : (nI (i + 2)).toNatClampNeg = i + 2 := nI_clamp (by omega)
  have e3x : nI i + 3 = nI (i + 3) := by rw [show (3 : Int32) = nI 3 from rfl, nI_add]
  have c3x : (nI (i + 3)).toNatClampNeg = i + 3 := nI_clamp (by omega)
  have e4x : nI i + 4 = nI (i + 4) := by rw [show (4 : Int32) = nI 4 from rfl, nI_add]
  have c4x : (nI (i + 4)).toNatClampNeg = i + 4 := nI_clamp (by omega)
  have e5x : nI i + 5 = nI (i + 5) := by rw [show (5 : Int32) = nI 5 from rfl, nI_add]
  have c5x : (nI (i + 5)).toNatClampNeg = i + 5 := nI_clamp (by omega)
  have hc0 : (0 : Int32).toNatClampNeg = 0 := rfl
  obtain ⟨f64, h64⟩ := cI_k64 h
  have hs := cs_witness l G hst h (xs (i + 1)) (xs (i + 2)) (xs (i + 3)) (xs (i + 4))
  obtain ⟨k9, dw, dm, mc, ms, cl1, mi1, se1, bl1, Q, q1, q2, q3, q4, q5, hw, hmo⟩ := cSs.s (yw := sL_witness) (hh := hL_witness) (Aw := [.ref 64, .int (xs (i + 1)), .int (xs (i + 2)), .int (xs (i + 3)), .int (xs (i + 4)), .ref 143]) h h143 hs (fun d mc ms Po => cw_witness_t l G h64) (fun p hp => by
    simp only [List.mem_cons, List.not_mem_nil, or_false] at hp
    rcases hp with rfl
    · exact ⟨by decide, fun d => cw_witness_x0 l G h64⟩)
  refine hB bL_law__1471 _ _ _ _ _ _ _ kL_law__1471 ?_
  dsimp only [bL_law__1471, kx_wp, kx_step, kx_lI, kx_lL, kx_lA, kx_gl, kx_pI, kx_pL, kx_pR, kx_pA, kx_pV, kx_s1, kx_s2, kx_sl, kx_pre, kx_c2, kx_pl, kx_cmp, kx_oF, kx_eqN, kx_nil, kx_c1, kx_ft, kx_aI, kx_aL, kx_aR, kx_ln, Nat.reduceAdd, Option.toList, List.cons_append, List.nil_append]
  repeat (simp only [e1x, c1x, e2x, c2x, e3x, c3x, e4x, c4x, e5x, c5x, h3]; try dsimp only [kx_wp, kx_step, kx_lI, kx_lL, kx_lA, kx_gl, kx_pI, kx_pL, kx_pR, kx_pA, kx_pV, kx_s1, kx_s2, kx_sl, kx_pre, kx_c2, kx_pl, kx_cmp, kx_oF, kx_eqN, kx_nil, kx_c1, kx_ft, kx_aI, kx_aL, kx_aR, kx_ln, Nat.reduceAdd, Option.toList, List.cons_append, List.nil_append])
  repeat' apply And.intro
  all_goals try (first | with_reducible assumption | (with_reducible refine ck_nzI ?_; simp; done) | (with_reducible refine ck_nzL ?_; simp; done) | (with_reducible refine vp_in_nI ?_ ?_ <;> first | omega | decide) | (with_reducible refine Nat.le_of_ble_eq_true ?_; rfl) | omega | (unfold vp_in; decide))
  refine hW 191 _ _ _ _ _ _ _ _ _ _ _ _ _ _ _ _ lL_191 hw rfl rfl (Nat.le_of_ble_eq_true rfl) (by omega) (by decide) (by omega) (by omega) dL_law__1497 ?_
  rintro r2 P2 s2 ⟨e2, hQ⟩
  rw [e2]
  obtain ⟨⟨fm, h93⟩, h33, hM⟩ := hmo P2 s2 hQ
  have h33 := h33.trans h3
  dsimp only [Option.toList, List.cons_append, List.nil_append]
  refine hB bL_law__1500 _ _ _ _ _ _ _ kL_law__1500 ?_
  dsimp only [bL_law__1500, kx_wp, kx_step, kx_lI, kx_lL, kx_lA, kx_gl, kx_pI, kx_pL, kx_pR, kx_pA, kx_pV, kx_s1, kx_s2, kx_sl, kx_pre, kx_c2, kx_pl, kx_cmp, kx_oF, kx_eqN, kx_nil, kx_c1, kx_ft, kx_aI, kx_aL, kx_aR, kx_ln, Nat.reduceAdd, Option.toList, List.cons_append, List.nil_append]
  repeat (simp only [e1x, c1x, e2x, c2x, e3x, c3x, e4x, c4x, e5x, c5x, h33]; try dsimp only [kx_wp, kx_step, kx_lI, kx_lL, kx_lA, kx_gl, kx_pI, kx_pL, kx_pR, kx_pA, kx_pV, kx_s1, kx_s2, kx_sl, kx_pre, kx_c2, kx_pl, kx_cmp, kx_oF, kx_eqN, kx_nil, kx_c1, kx_ft, kx_aI, kx_aL, kx_aR, kx_ln, Nat.reduceAdd, Option.toList, List.cons_append, List.nil_append])
  repeat' apply And.intro
  all_goals try (first | with_reducible assumption | (with_reducible refine ck_nzI ?_; simp; done) | (with_reducible refine ck_nzL ?_; simp; done) | (with_reducible refine vp_in_nI ?_ ?_ <;> first | omega | decide) | (with_reducible refine Nat.le_of_ble_eq_true ?_; rfl) | omega | (unfold vp_in; decide))
  refine hN.1 193 _ _ _ _ _ _ _ 11 _ _ _ _ _ _ _ _ _ _ lL_193 hM ⟨by decide, rfl⟩ h93 rfl rfl (Nat.le_of_ble_eq_true rfl) (by omega) (by decide) (by omega) (by omega) dL_law__1527 ?_
  rintro r3 P3 s3 ⟨e3, v, S2, go2, e4, hT, hk0, hI, h34, h143b, hgo0⟩
  obtain ⟨b9, e5⟩ := hT.2 (by decide)
  subst e5
  rw [e3, e4]
  have h34 := h34.trans h3
  have h93b := cI_93 hI
  have hth := cI_th l G hI
  rw [hk0] at hth
  dsimp only [Option.toList, List.cons_append, List.nil_append]
  refine hB bL_law__1530 _ _ _ _ _ _ _ kL_law__1530 ?_
  dsimp only [bL_law__1530, kx_wp, kx_step, kx_lI, kx_lL, kx_lA, kx_gl, kx_pI, kx_pL, kx_pR, kx_pA, kx_pV, kx_s1, kx_s2, kx_sl, kx_pre, kx_c2, kx_pl, kx_cmp, kx_oF, kx_eqN, kx_nil, kx_c1, kx_ft, kx_aI, kx_aL, kx_aR, kx_ln, Nat.reduceAdd, Option.toList, List.cons_append, List.nil_append]
  repeat (simp only [e1x, c1x, e2x, c2x, e3x, c3x, e4x, c4x, e5x, c5x, h143b, hc0]; try dsimp only [kx_wp, kx_step, kx_lI, kx_lL, kx_lA, kx_gl, kx_pI, kx_pL, kx_pR, kx_pA, kx_pV, kx_s1, kx_s2, kx_sl, kx_pre, kx_c2, kx_pl, kx_cmp, kx_oF, kx_eqN, kx_nil, kx_c1, kx_ft, kx_aI, kx_aL, kx_aR, kx_ln, Nat.reduceAdd, Option.toList, List.cons_append, List.nil_append])
  repeat' apply And.intro
  all_goals try (first | with_reducible assumption | (with_reducible refine ck_nzI ?_; simp; done) | (with_reducible refine ck_nzL ?_; simp; done) | (with_reducible refine vp_in_nI ?_ ?_ <;> first | omega | decide) | (with_reducible refine Nat.le_of_ble_eq_true ?_; rfl) | omega | (unfold vp_in; decide))
  refine hN.1 120 _ _ _ _ _ _ _ 11 _ _ _ _ _ _ _ _ _ _ lL_120 hth.n ⟨by decide, rfl⟩ h93b rfl rfl (Nat.le_of_ble_eq_true rfl) (by omega) (by decide) (by omega) (by omega) dL_law__1533 ?_
  rintro r4 P4 s4 ⟨e6, e7, e8⟩
  rw [e6, e7, e8]
  dsimp only [Option.toList, List.cons_append, List.nil_append]
  refine hB bL_law__1536 _ _ _ _ _ _ _ kL_law__1536 ?_
  dsimp only [bL_law__1536, kx_wp, kx_step, kx_lI, kx_lL, kx_lA, kx_gl, kx_pI, kx_pL, kx_pR, kx_pA, kx_pV, kx_s1, kx_s2, kx_sl, kx_pre, kx_c2, kx_pl, kx_cmp, kx_oF, kx_eqN, kx_nil, kx_c1, kx_ft, kx_aI, kx_aL, kx_aR, kx_ln, Nat.reduceAdd, Option.toList, List.cons_append, List.nil_append]
  repeat (simp only [e1x, c1x, e2x, c2x, e3x, c3x, e4x, c4x, e5x, c5x, h143b, hc0]; try dsimp only [kx_wp, kx_step, kx_lI, kx_lL, kx_lA, kx_gl, kx_pI, kx_pL, kx_pR, kx_pA, kx_pV, kx_s1, kx_s2, kx_sl, kx_pre, kx_c2, kx_pl, kx_cmp, kx_oF, kx_eqN, kx_nil, kx_c1, kx_ft, kx_aI, kx_aL, kx_aR, kx_ln, Nat.reduceAdd, Option.toList, List.cons_append, List.nil_append])
  repeat' apply And.intro
  all_goals try (first | with_reducible assumption | (with_reducible refine ck_nzI ?_; simp; done) | (with_reducible refine ck_nzL ?_; simp; done) | (with_reducible refine vp_in_nI ?_ ?_ <;> first | omega | decide) | (with_reducible refine Nat.le_of_ble_eq_true ?_; rfl) | omega | (unfold vp_in; decide))
  · intro zc1538
    refine hB bL_law__1543 _ _ _ _ _ _ _ kL_law__1543 ?_
    dsimp only [bL_law__1543, kx_wp, kx_step, kx_lI, kx_lL, kx_lA, kx_gl, kx_pI, kx_pL, kx_pR, kx_pA, kx_pV, kx_s1, kx_s2, kx_sl, kx_pre, kx_c2, kx_pl, kx_cmp, kx_oF, kx_eqN, kx_nil, kx_c1, kx_ft, kx_aI, kx_aL, kx_aR, kx_ln, Nat.reduceAdd, Option.toList, List.cons_append, List.nil_append]
    repeat (simp only [e1x, c1x, e2x, c2x, e3x, c3x, e4x, c4x, e5x, c5x, h143b, hc0]; try dsimp only [kx_wp, kx_step, kx_lI, kx_lL, kx_lA, kx_gl, kx_pI, kx_pL, kx_pR, kx_pA, kx_pV, kx_s1, kx_s2, kx_sl, kx_pre, kx_c2, kx_pl, kx_cmp, kx_oF, kx_eqN, kx_nil, kx_c1, kx_ft, kx_aI, kx_aL, kx_aR, kx_ln, Nat.reduceAdd, Option.toList, List.cons_append, List.nil_append])
    repeat' apply And.intro
    all_goals try (first | with_reducible assumption | (with_reducible refine ck_nzI ?_; simp; done) | (with_reducible refine ck_nzL ?_; simp; done) | (with_reducible refine vp_in_nI ?_ ?_ <;> first | omega | decide) | (with_reducible refine Nat.le_of_ble_eq_true ?_; rfl) | omega | (unfold vp_in; decide))
    · intro zc1545
      refine hB bL_law__1560 _ _ _ _ _ _ _ kL_law__1560 ?_
      dsimp only [bL_law__1560, kx_wp, kx_step, kx_lI, kx_lL, kx_lA, kx_gl, kx_pI, kx_pL, kx_pR, kx_pA, kx_pV, kx_s1, kx_s2, kx_sl, kx_pre, kx_c2, kx_pl, kx_cmp, kx_oF, kx_eqN, kx_nil, kx_c1, kx_ft, kx_aI, kx_aL, kx_aR, kx_ln, Nat.reduceAdd, Option.toList, List.cons_append, List.nil_append]
      repeat (simp only [e1x, c1x, e2x, c2x, e3x, c3x, e4x, c4x, e5x, c5x, h143b, hc0]; try dsimp only [kx_wp, kx_step, kx_lI, kx_lL, kx_lA, kx_gl, kx_pI, kx_pL, kx_pR, kx_pA, kx_pV, kx_s1, kx_s2, kx_sl, kx_pre, kx_c2, kx_pl, kx_cmp, kx_oF, kx_eqN, kx_nil, kx_c1, kx_ft, kx_aI, kx_aL, kx_aR, kx_ln, Nat.reduceAdd, Option.toList, List.cons_append, List.nil_append])
      repeat' apply And.intro
      all_goals try (first | with_reducible assumption | (with_reducible refine ck_nzI ?_; simp; done) | (with_reducible refine ck_nzL ?_; simp; done) | (with_reducible refine vp_in_nI ?_ ?_ <;> first | omega | decide) | (with_reducible refine Nat.le_of_ble_eq_true ?_; rfl) | omega | (unfold vp_in; decide))
      exact hgo P3 s2 S2 cl1 mi1 se1 bl1 go2 _ _ _ _ _ hI h34 h143b (by omega) (by omega) (by omega)
    · intro zc1545
      refine hB bL_law__1548 _ _ _ _ _ _ _ kL_law__1548 ?_
      dsimp only [bL_law__1548, kx_wp, kx_step, kx_lI, kx_lL, kx_lA, kx_gl, kx_pI, kx_pL, kx_pR, kx_pA, kx_pV, kx_s1, kx_s2, kx_sl, kx_pre, kx_c2, kx_pl, kx_cmp, kx_oF, kx_eqN, kx_nil, kx_c1, kx_ft, kx_aI, kx_aL, kx_aR, kx_ln, Nat.reduceAdd, Option.toList, List.cons_append, List.nil_append]
      repeat (simp only [e1x, c1x, e2x, c2x, e3x, c3x, e4x, c4x, e5x, c5x, h143b, hc0]; try dsimp only [kx_wp, kx_step, kx_lI, kx_lL, kx_lA, kx_gl, kx_pI, kx_pL, kx_pR, kx_pA, kx_pV, kx_s1, kx_s2, kx_sl, kx_pre, kx_c2, kx_pl, kx_cmp, kx_oF, kx_eqN, kx_nil, kx_c1, kx_ft, kx_aI, kx_aL, kx_aR, kx_ln, Nat.reduceAdd, Option.toList, List.cons_append, List.nil_append])
      repeat' apply And.intro
      all_goals try (first | with_reducible assumption | (with_reducible refine ck_nzI ?_; simp; done) | (with_reducible refine ck_nzL ?_; simp; done) | (with_reducible refine vp_in_nI ?_ ?_ <;> first | omega | decide) | (with_reducible refine Nat.le_of_ble_eq_true ?_; rfl) | omega | (unfold vp_in; decide))
      · intro zc1555
        refine hB bL_law__1560 _ _ _ _ _ _ _ kL_law__1560 ?_
        dsimp only [bL_law__1560, kx_wp, kx_step, kx_lI, kx_lL, kx_lA, kx_gl, kx_pI, kx_pL, kx_pR, kx_pA, kx_pV, kx_s1, kx_s2, kx_sl, kx_pre, kx_c2, kx_pl, kx_cmp, kx_oF, kx_eqN, kx_nil, kx_c1, kx_ft, kx_aI, kx_aL, kx_aR, kx_ln, Nat.reduceAdd, Option.toList, List.cons_append, List.nil_append]
        repeat (simp only [e1x, c1x, e2x, c2x, e3x, c3x, e4x, c4x, e5x, c5x, h143b, hc0]; try dsimp only [kx_wp, kx_step, kx_lI, kx_lL, kx_lA, kx_gl, kx_pI, kx_pL, kx_pR, kx_pA, kx_pV, kx_s1, kx_s2, kx_sl, kx_pre, kx_c2, kx_pl, kx_cmp, kx_oF, kx_eqN, kx_nil, kx_c1, kx_ft, kx_aI, kx_aL, kx_aR, kx_ln, Nat.reduceAdd, Option.toList, List.cons_append, List.nil_append])
        repeat' apply And.intro
        all_goals try (first | with_reducible assumption | (with_reducible refine ck_nzI ?_; simp; done) | (with_reducible refine ck_nzL ?_; simp; done) | (with_reducible refine vp_in_nI ?_ ?_ <;> first | omega | decide) | (with_reducible refine Nat.le_of_ble_eq_true ?_; rfl) | omega | (unfold vp_in; decide))
        exact hgo P3 s2 S2 cl1 mi1 se1 bl1 go2 _ _ _ _ _ hI h34 h143b (by omega) (by omega) (by omega)
      · intro zc1555
        first | exact absurd rfl zc1555 | exact absurd zc1555 (by decide) | exact absurd (by decide) zc1555 | (exfalso; first | exact zc1555 (by rw [hgo0 (Decidable.not_not.mp zc1545)]; exact lg_cmp_s _)) | (exfalso; simp_all; done)
  · intro zc1538
    first | exact absurd rfl zc1538 | exact absurd zc1538 (by decide) | exact absurd (by decide) zc1538 | (exfalso; first | exact zc1555 (by rw [hgo0 (Decidable.not_not.mp zc1545)]; exact lg_cmp_s _)) | (exfalso; simp_all; done)

set_option maxRecDepth 100000 in
set_option maxHeartbeats 4000000 in
theorem cj_keeper (l : Launch) (G : kx_G) (hst : l.stackTraces = false) {P : kx_P} {sz : Nat} {M : Nat → Int32} {A : Nat → Nat → Int32} {L : Nat → Nat → Int64} {cl mi se : Nat} {bl : Nat → Nat} {go : Nat → Int64} {Ln i k n : Nat} {xs : Nat → Int32} {o5 o6 o7 : Option Value} {g : kx_F} (h : cI P sz (M, A, L) cl mi se bl) (h3 : P 3 = kI 5 Ln xs) (h143 : P 143 = kL 1 go) (hi : i + 6 ≤ Ln) (hL : Ln ≤ 3072) (hk : k + 8 ≤ 601024) (hn : n + cro bl + 2206 ≤ 7293033) (hse : se ≤ 999) (hB : kx_rB kxL_L false cL_law_ 601024 7293033 (fun r _ _ => r = some (.int 1)) g) (hN : kx_rN l G RL cL_law_ 60 601024 7293033 g) (hW : kx_rW l G RL cL_law_ 60 601024 7293033 g) (hgo : cAf g Ln xs i se k n bl) : g 1563 [some (.ref 3), some (.ref 64), some (.ref 93), some (.ref 143), some (.int (nI i)), o5, o6, o7] [] P sz k n := by
  have e1x : nI i + 1 = nI (i + 1) := by rw [show (1 : Int32) = nI 1 from rfl, nI_add]
  have c1x : (nI (i + 1)).toNatClampNeg = i + 1 := nI_clamp (by omega)
  have e2x : nI i + 2 = nI (i + 2) := by rw [show (2 : Int32) = nI 2 from rfl, nI_add]
  have c2x : (nI (i + 2)).toNatClampNeg = i + 2 := nI_clamp (by omega)
  have e3x : nI i + 3 = nI (i + 3) := by rw [show (3 : Int32) = nI 3 from rfl, nI_add]
  have c3x : (nI (i + 3)).toNatClampNeg = i + 3 := nI_clamp (by omega)
  have e4x : nI i + 4 = nI (i + 4) := by rw [show (4 : Int32) = nI 4 from rfl, nI_add]
  have c4x : (nI (i + 4)).toNatClampNeg = i + 4 := nI_clamp (by omega)
  have e5x : nI i + 5 = nI (i + 5) := by rw [show (5 : Int32) = nI 5 from rfl, nI_add]
  have c5x : (nI (i + 5)).toNatClampNeg = i + 5 := nI_clamp (by omega)
  have hc0 : (0 : Int32).toNatClampNeg = 0 := rfl
  obtain ⟨f64, h64⟩ := cI_k64 h
  have hs := cs_keeper l G hst h (xs (i + 1)) (xs (i + 2))
  obtain ⟨k9, dw, dm, mc, ms, cl1, mi1, se1, bl1, Q, q1, q2, q3, q4, q5, hw, hmo⟩ := cSs.s (yw := sL_keeper) (hh := hL_keeper) (Aw := [.ref 64, .int (xs (i + 1)), .int (xs (i + 2)), .ref 143]) h h143 hs (fun d mc ms Po => cw_keeper_t l G h64) (fun p hp => by
    simp only [List.mem_cons, List.not_mem_nil, or_false] at hp
    rcases hp with rfl
    · exact ⟨by decide, fun d => cw_keeper_x0 l G h64⟩)
  refine hB bL_law__1563 _ _ _ _ _ _ _ kL_law__1563 ?_
  dsimp only [bL_law__1563, kx_wp, kx_step, kx_lI, kx_lL, kx_lA, kx_gl, kx_pI, kx_pL, kx_pR, kx_pA, kx_pV, kx_s1, kx_s2, kx_sl, kx_pre, kx_c2, kx_pl, kx_cmp, kx_oF, kx_eqN, kx_nil, kx_c1, kx_ft, kx_aI, kx_aL, kx_aR, kx_ln, Nat.reduceAdd, Option.toList, List.cons_append, List.nil_append]
  repeat (simp only [e1x, c1x, e2x, c2x, e3x, c3x, e4x, c4x, e5x, c5x, h3]; try dsimp only [kx_wp, kx_step, kx_lI, kx_lL, kx_lA, kx_gl, kx_pI, kx_pL, kx_pR, kx_pA, kx_pV, kx_s1, kx_s2, kx_sl, kx_pre, kx_c2, kx_pl, kx_cmp, kx_oF, kx_eqN, kx_nil, kx_c1, kx_ft, kx_aI, kx_aL, kx_aR, kx_ln, Nat.reduceAdd, Option.toList, List.cons_append, List.nil_append])
  repeat' apply And.intro
  all_goals try (first | with_reducible assumption | (with_reducible refine ck_nzI ?_; simp; done) | (with_reducible refine ck_nzL ?_; simp; done) | (with_reducible refine vp_in_nI ?_ ?_ <;> first | omega | decide) | (with_reducible refine Nat.le_of_ble_eq_true ?_; rfl) | omega | (unfold vp_in; decide))
  refine hW 194 _ _ _ _ _ _ _ _ _ _ _ _ _ _ _ _ lL_194 hw rfl rfl (Nat.le_of_ble_eq_true rfl) (by omega) (by decide) (by omega) (by omega) dL_law__1577 ?_
  rintro r2 P2 s2 ⟨e2, hQ⟩
  rw [e2]
  obtain ⟨⟨fm, h93⟩, h33, hM⟩ := hmo P2 s2 hQ
  have h33 := h33.trans h3
  dsimp only [Option.toList, List.cons_append, List.nil_append]
  refine hB bL_law__1580 _ _ _ _ _ _ _ kL_law__1580 ?_
  dsimp only [bL_law__1580, kx_wp, kx_step, kx_lI, kx_lL, kx_lA, kx_gl, kx_pI, kx_pL, kx_pR, kx_pA, kx_pV, kx_s1, kx_s2, kx_sl, kx_pre, kx_c2, kx_pl, kx_cmp, kx_oF, kx_eqN, kx_nil, kx_c1, kx_ft, kx_aI, kx_aL, kx_aR, kx_ln, Nat.reduceAdd, Option.toList, List.cons_append, List.nil_append]
  repeat (simp only [e1x, c1x, e2x, c2x, e3x, c3x, e4x, c4x, e5x, c5x, h33]; try dsimp only [kx_wp, kx_step, kx_lI, kx_lL, kx_lA, kx_gl, kx_pI, kx_pL, kx_pR, kx_pA, kx_pV, kx_s1, kx_s2, kx_sl, kx_pre, kx_c2, kx_pl, kx_cmp, kx_oF, kx_eqN, kx_nil, kx_c1, kx_ft, kx_aI, kx_aL, kx_aR, kx_ln, Nat.reduceAdd, Option.toList, List.cons_append, List.nil_append])
  repeat' apply And.intro
  all_goals try (first | with_reducible assumption | (with_reducible refine ck_nzI ?_; simp; done) | (with_reducible refine ck_nzL ?_; simp; done) | (with_reducible refine vp_in_nI ?_ ?_ <;> first | omega | decide) | (with_reducible refine Nat.le_of_ble_eq_true ?_; rfl) | omega | (unfold vp_in; decide))
  refine hN.1 196 _ _ _ _ _ _ _ 11 _ _ _ _ _ _ _ _ _ _ lL_196 hM ⟨by decide, rfl⟩ h93 rfl rfl (Nat.le_of_ble_eq_true rfl) (by omega) (by decide) (by omega) (by omega) dL_law__1595 ?_
  rintro r3 P3 s3 ⟨e3, v, S2, go2, e4, hT, hk0, hI, h34, h143b, hgo0⟩
  obtain ⟨b9, e5⟩ := hT.2 (by decide)
  subst e5
  rw [e3, e4]
  have h34 := h34.trans h3
  have h93b := cI_93 hI
  have hth := cI_th l G hI
  rw [hk0] at hth
  dsimp only [Option.toList, List.cons_append, List.nil_append]
  refine hB bL_law__1598 _ _ _ _ _ _ _ kL_law__1598 ?_
  dsimp only [bL_law__1598, kx_wp, kx_step, kx_lI, kx_lL, kx_lA, kx_gl, kx_pI, kx_pL, kx_pR, kx_pA, kx_pV, kx_s1, kx_s2, kx_sl, kx_pre, kx_c2, kx_pl, kx_cmp, kx_oF, kx_eqN, kx_nil, kx_c1, kx_ft, kx_aI, kx_aL, kx_aR, kx_ln, Nat.reduceAdd, Option.toList, List.cons_append, List.nil_append]
  repeat (simp only [e1x, c1x, e2x, c2x, e3x, c3x, e4x, c4x, e5x, c5x, h143b, hc0]; try dsimp only [kx_wp, kx_step, kx_lI, kx_lL, kx_lA, kx_gl, kx_pI, kx_pL, kx_pR, kx_pA, kx_pV, kx_s1, kx_s2, kx_sl, kx_pre, kx_c2, kx_pl, kx_cmp, kx_oF, kx_eqN, kx_nil, kx_c1, kx_ft, kx_aI, kx_aL, kx_aR, kx_ln, Nat.reduceAdd, Option.toList, List.cons_append, List.nil_append])
  repeat' apply And.intro
  all_goals try (first | with_reducible assumption | (with_reducible refine ck_nzI ?_; simp; done) | (with_reducible refine ck_nzL ?_; simp; done) | (with_reducible refine vp_in_nI ?_ ?_ <;> first | omega | decide) | (with_reducible refine Nat.le_of_ble_eq_true ?_; rfl) | omega | (unfold vp_in; decide))
  refine hN.1 120 _ _ _ _ _ _ _ 11 _ _ _ _ _ _ _ _ _ _ lL_120 hth.n ⟨by decide, rfl⟩ h93b rfl rfl (Nat.le_of_ble_eq_true rfl) (by omega) (by decide) (by omega) (by omega) dL_law__1601 ?_
  rintro r4 P4 s4 ⟨e6, e7, e8⟩
  rw [e6, e7, e8]
  dsimp only [Option.toList, List.cons_append, List.nil_append]
  refine hB bL_law__1604 _ _ _ _ _ _ _ kL_law__1604 ?_
  dsimp only [bL_law__1604, kx_wp, kx_step, kx_lI, kx_lL, kx_lA, kx_gl, kx_pI, kx_pL, kx_pR, kx_pA, kx_pV, kx_s1, kx_s2, kx_sl, kx_pre, kx_c2, kx_pl, kx_cmp, kx_oF, kx_eqN, kx_nil, kx_c1, kx_ft, kx_aI, kx_aL, kx_aR, kx_ln, Nat.reduceAdd, Option.toList, List.cons_append, List.nil_append]
  repeat (simp only [e1x, c1x, e2x, c2x, e3x, c3x, e4x, c4x, e5x, c5x, h143b, hc0]; try dsimp only [kx_wp, kx_step, kx_lI, kx_lL, kx_lA, kx_gl, kx_pI, kx_pL, kx_pR, kx_pA, kx_pV, kx_s1, kx_s2, kx_sl, kx_pre, kx_c2, kx_pl, kx_cmp, kx_oF, kx_eqN, kx_nil, kx_c1, kx_ft, kx_aI, kx_aL, kx_aR, kx_ln, Nat.reduceAdd, Option.toList, List.cons_append, List.nil_append])
  repeat' apply And.intro
  all_goals try (first | with_reducible assumption | (with_reducible refine ck_nzI ?_; simp; done) | (with_reducible refine ck_nzL ?_; simp; done) | (with_reducible refine vp_in_nI ?_ ?_ <;> first | omega | decide) | (with_reducible refine Nat.le_of_ble_eq_true ?_; rfl) | omega | (unfold vp_in; decide))
  · intro zc1606
    refine hB bL_law__1611 _ _ _ _ _ _ _ kL_law__1611 ?_
    dsimp only [bL_law__1611, kx_wp, kx_step, kx_lI, kx_lL, kx_lA, kx_gl, kx_pI, kx_pL, kx_pR, kx_pA, kx_pV, kx_s1, kx_s2, kx_sl, kx_pre, kx_c2, kx_pl, kx_cmp, kx_oF, kx_eqN, kx_nil, kx_c1, kx_ft, kx_aI, kx_aL, kx_aR, kx_ln, Nat.reduceAdd, Option.toList, List.cons_append, List.nil_append]
    repeat (simp only [e1x, c1x, e2x, c2x, e3x, c3x, e4x, c4x, e5x, c5x, h143b, hc0]; try dsimp only [kx_wp, kx_step, kx_lI, kx_lL, kx_lA, kx_gl, kx_pI, kx_pL, kx_pR, kx_pA, kx_pV, kx_s1, kx_s2, kx_sl, kx_pre, kx_c2, kx_pl, kx_cmp, kx_oF, kx_eqN, kx_nil, kx_c1, kx_ft, kx_aI, kx_aL, kx_aR, kx_ln, Nat.reduceAdd, Option.toList, List.cons_append, List.nil_append])
    repeat' apply And.intro
    all_goals try (first | with_reducible assumption | (with_reducible refine ck_nzI ?_; simp; done) | (with_reducible refine ck_nzL ?_; simp; done) | (with_reducible refine vp_in_nI ?_ ?_ <;> first | omega | decide) | (with_reducible refine Nat.le_of_ble_eq_true ?_; rfl) | omega | (unfold vp_in; decide))
    · intro zc1613
      refine hB bL_law__1628 _ _ _ _ _ _ _ kL_law__1628 ?_
      dsimp only [bL_law__1628, kx_wp, kx_step, kx_lI, kx_lL, kx_lA, kx_gl, kx_pI, kx_pL, kx_pR, kx_pA, kx_pV, kx_s1, kx_s2, kx_sl, kx_pre, kx_c2, kx_pl, kx_cmp, kx_oF, kx_eqN, kx_nil, kx_c1, kx_ft, kx_aI, kx_aL, kx_aR, kx_ln, Nat.reduceAdd, Option.toList, List.cons_append, List.nil_append]
      repeat (simp only [e1x, c1x, e2x, c2x, e3x, c3x, e4x, c4x, e5x, c5x, h143b, hc0]; try dsimp only [kx_wp, kx_step, kx_lI, kx_lL, kx_lA, kx_gl, kx_pI, kx_pL, kx_pR, kx_pA, kx_pV, kx_s1, kx_s2, kx_sl, kx_pre, kx_c2, kx_pl, kx_cmp, kx_oF, kx_eqN, kx_nil, kx_c1, kx_ft, kx_aI, kx_aL, kx_aR, kx_ln, Nat.reduceAdd, Option.toList, List.cons_append, List.nil_append])
      repeat' apply And.intro
      all_goals try (first | with_reducible assumption | (with_reducible refine ck_nzI ?_; simp; done) | (with_reducible refine ck_nzL ?_; simp; done) | (with_reducible refine vp_in_nI ?_ ?_ <;> first | omega | decide) | (with_reducible refine Nat.le_of_ble_eq_true ?_; rfl) | omega | (unfold vp_in; decide))
      exact hgo P3 s2 S2 cl1 mi1 se1 bl1 go2 _ _ _ _ _ hI h34 h143b (by omega) (by omega) (by omega)
    · intro zc1613
      refine hB bL_law__1616 _ _ _ _ _ _ _ kL_law__1616 ?_
      dsimp only [bL_law__1616, kx_wp, kx_step, kx_lI, kx_lL, kx_lA, kx_gl, kx_pI, kx_pL, kx_pR, kx_pA, kx_pV, kx_s1, kx_s2, kx_sl, kx_pre, kx_c2, kx_pl, kx_cmp, kx_oF, kx_eqN, kx_nil, kx_c1, kx_ft, kx_aI, kx_aL, kx_aR, kx_ln, Nat.reduceAdd, Option.toList, List.cons_append, List.nil_append]
      repeat (simp only [e1x, c1x, e2x, c2x, e3x, c3x, e4x, c4x, e5x, c5x, h143b, hc0]; try dsimp only [kx_wp, kx_step, kx_lI, kx_lL, kx_lA, kx_gl, kx_pI, kx_pL, kx_pR, kx_pA, kx_pV, kx_s1, kx_s2, kx_sl, kx_pre, kx_c2, kx_pl, kx_cmp, kx_oF, kx_eqN, kx_nil, kx_c1, kx_ft, kx_aI, kx_aL, kx_aR, kx_ln, Nat.reduceAdd, Option.toList, List.cons_append, List.nil_append])
      repeat' apply And.intro
      all_goals try (first | with_reducible assumption | (with_reducible refine ck_nzI ?_; simp; done) | (with_reducible refine ck_nzL ?_; simp; done) | (with_reducible refine vp_in_nI ?_ ?_ <;> first | omega | decide) | (with_reducible refine Nat.le_of_ble_eq_true ?_; rfl) | omega | (unfold vp_in; decide))
      · intro zc1623
        refine hB bL_law__1628 _ _ _ _ _ _ _ kL_law__1628 ?_
        dsimp only [bL_law__1628, kx_wp, kx_step, kx_lI, kx_lL, kx_lA, kx_gl, kx_pI, kx_pL, kx_pR, kx_pA, kx_pV, kx_s1, kx_s2, kx_sl, kx_pre, kx_c2, kx_pl, kx_cmp, kx_oF, kx_eqN, kx_nil, kx_c1, kx_ft, kx_aI, kx_aL, kx_aR, kx_ln, Nat.reduceAdd, Option.toList, List.cons_append, List.nil_append]
        repeat (simp only [e1x, c1x, e2x, c2x, e3x, c3x, e4x, c4x, e5x, c5x, h143b, hc0]; try dsimp only [kx_wp, kx_step, kx_lI, kx_lL, kx_lA, kx_gl, kx_pI, kx_pL, kx_pR, kx_pA, kx_pV, kx_s1, kx_s2, kx_sl, kx_pre, kx_c2, kx_pl, kx_cmp, kx_oF, kx_eqN, kx_nil, kx_c1, kx_ft, kx_aI, kx_aL, kx_aR, kx_ln, Nat.reduceAdd, Option.toList, List.cons_append, List.nil_append])
        repeat' apply And.intro
        all_goals try (first | with_reducible assumption | (with_reducible refine ck_nzI ?_; simp; done) | (with_reducible refine ck_nzL ?_; simp; done) | (with_reducible refine vp_in_nI ?_ ?_ <;> first | omega | decide) | (with_reducible refine Nat.le_of_ble_eq_true ?_; rfl) | omega | (unfold vp_in; decide))
        exact hgo P3 s2 S2 cl1 mi1 se1 bl1 go2 _ _ _ _ _ hI h34 h143b (by omega) (by omega) (by omega)
      · intro zc1623
        first | exact absurd rfl zc1623 | exact absurd zc1623 (by decide) | exact absurd (by decide) zc1623 | (exfalso; first | exact zc1623 (by rw [hgo0 (Decidable.not_not.mp zc1613)]; exact lg_cmp_s _)) | (exfalso; simp_all; done)
  · intro zc1606
    first | exact absurd rfl zc1606 | exact absurd zc1606 (by decide) | exact absurd (by decide) zc1606 | (exfalso; first | exact zc1623 (by rw [hgo0 (Decidable.not_not.mp zc1613)]; exact lg_cmp_s _)) | (exfalso; simp_all; done)

set_option maxRecDepth 100000 in
set_option maxHeartbeats 4000000 in
theorem cj_round (l : Launch) (G : kx_G) (hst : l.stackTraces = false) {P : kx_P} {sz : Nat} {M : Nat → Int32} {A : Nat → Nat → Int32} {L : Nat → Nat → Int64} {cl mi se : Nat} {bl : Nat → Nat} {go : Nat → Int64} {Ln i k n : Nat} {xs : Nat → Int32} {o5 o6 o7 : Option Value} {g : kx_F} (h : cI P sz (M, A, L) cl mi se bl) (h3 : P 3 = kI 5 Ln xs) (h143 : P 143 = kL 1 go) (hi : i + 6 ≤ Ln) (hL : Ln ≤ 3072) (hk : k + 8 ≤ 601024) (hn : n + cro bl + 2206 ≤ 7293033) (hse : se ≤ 999) (hB : kx_rB kxL_L false cL_law_ 601024 7293033 (fun r _ _ => r = some (.int 1)) g) (hN : kx_rN l G RL cL_law_ 60 601024 7293033 g) (hW : kx_rW l G RL cL_law_ 60 601024 7293033 g) (hgo : cAf g Ln xs i se k n bl) : g 1631 [some (.ref 3), some (.ref 64), some (.ref 93), some (.ref 143), some (.int (nI i)), o5, o6, o7] [] P sz k n := by
  have e1x : nI i + 1 = nI (i + 1) := by rw [show (1 : Int32) = nI 1 from rfl, nI_add]
  have c1x : (nI (i + 1)).toNatClampNeg = i + 1 := nI_clamp (by omega)
  have e2x : nI i + 2 = nI (i + 2) := by rw [show (2 : Int32) = nI 2 from rfl, nI_add]
  have c2x : (nI (i + 2)).toNatClampNeg = i + 2 := nI_clamp (by omega)
  have e3x : nI i + 3 = nI (i + 3) := by rw [show (3 : Int32) = nI 3 from rfl, nI_add]
  have c3x : (nI (i + 3)).toNatClampNeg = i + 3 := nI_clamp (by omega)
  have e4x : nI i + 4 = nI (i + 4) := by rw [show (4 : Int32) = nI 4 from rfl, nI_add]
  have c4x : (nI (i + 4)).toNatClampNeg = i + 4 := nI_clamp (by omega)
  have e5x : nI i + 5 = nI (i + 5) := by rw [show (5 : Int32) = nI 5 from rfl, nI_add]
  have c5x : (nI (i + 5)).toNatClampNeg = i + 5 := nI_clamp (by omega)
  have hc0 : (0 : Int32).toNatClampNeg = 0 := rfl
  obtain ⟨f64, h64⟩ := cI_k64 h
  have hs := cs_round l G hst h (xs (i + 1)) (xs (i + 2))
  obtain ⟨k9, dw, dm, mc, ms, cl1, mi1, se1, bl1, Q, q1, q2, q3, q4, q5, hw, hmo⟩ := cSs.s (yw := sL_round) (hh := hL_round) (Aw := [.ref 64, .int (xs (i + 1)), .int (xs (i + 2)), .ref 143]) h h143 hs (fun d mc ms Po => cw_round_t l G h64) (fun p hp => by
    simp only [List.mem_cons, List.not_mem_nil, or_false] at hp
    rcases hp with rfl
    · exact ⟨by decide, fun d => cw_round_x0 l G h64⟩)
  refine hB bL_law__1631 _ _ _ _ _ _ _ kL_law__1631 ?_
  dsimp only [bL_law__1631, kx_wp, kx_step, kx_lI, kx_lL, kx_lA, kx_gl, kx_pI, kx_pL, kx_pR, kx_pA, kx_pV, kx_s1, kx_s2, kx_sl, kx_pre, kx_c2, kx_pl, kx_cmp, kx_oF, kx_eqN, kx_nil, kx_c1, kx_ft, kx_aI, kx_aL, kx_aR, kx_ln, Nat.reduceAdd, Option.toList, List.cons_append, List.nil_append]
  repeat (simp only [e1x, c1x, e2x, c2x, e3x, c3x, e4x, c4x, e5x, c5x, h3]; try dsimp only [kx_wp, kx_step, kx_lI, kx_lL, kx_lA, kx_gl, kx_pI, kx_pL, kx_pR, kx_pA, kx_pV, kx_s1, kx_s2, kx_sl, kx_pre, kx_c2, kx_pl, kx_cmp, kx_oF, kx_eqN, kx_nil, kx_c1, kx_ft, kx_aI, kx_aL, kx_aR, kx_ln, Nat.reduceAdd, Option.toList, List.cons_append, List.nil_append])
  repeat' apply And.intro
  all_goals try (first | with_reducible assumption | (with_reducible refine ck_nzI ?_; simp; done) | (with_reducible refine ck_nzL ?_; simp; done) | (with_reducible refine vp_in_nI ?_ ?_ <;> first | omega | decide) | (with_reducible refine Nat.le_of_ble_eq_true ?_; rfl) | omega | (unfold vp_in; decide))
  refine hW 197 _ _ _ _ _ _ _ _ _ _ _ _ _ _ _ _ lL_197 hw rfl rfl (Nat.le_of_ble_eq_true rfl) (by omega) (by decide) (by omega) (by omega) dL_law__1645 ?_
  rintro r2 P2 s2 ⟨e2, hQ⟩
  rw [e2]
  obtain ⟨⟨fm, h93⟩, h33, hM⟩ := hmo P2 s2 hQ
  have h33 := h33.trans h3
  dsimp only [Option.toList, List.cons_append, List.nil_append]
  refine hB bL_law__1648 _ _ _ _ _ _ _ kL_law__1648 ?_
  dsimp only [bL_law__1648, kx_wp, kx_step, kx_lI, kx_lL, kx_lA, kx_gl, kx_pI, kx_pL, kx_pR, kx_pA, kx_pV, kx_s1, kx_s2, kx_sl, kx_pre, kx_c2, kx_pl, kx_cmp, kx_oF, kx_eqN, kx_nil, kx_c1, kx_ft, kx_aI, kx_aL, kx_aR, kx_ln, Nat.reduceAdd, Option.toList, List.cons_append, List.nil_append]
  repeat (simp only [e1x, c1x, e2x, c2x, e3x, c3x, e4x, c4x, e5x, c5x, h33]; try dsimp only [kx_wp, kx_step, kx_lI, kx_lL, kx_lA, kx_gl, kx_pI, kx_pL, kx_pR, kx_pA, kx_pV, kx_s1, kx_s2, kx_sl, kx_pre, kx_c2, kx_pl, kx_cmp, kx_oF, kx_eqN, kx_nil, kx_c1, kx_ft, kx_aI, kx_aL, kx_aR, kx_ln, Nat.reduceAdd, Option.toList, List.cons_append, List.nil_append])
  repeat' apply And.intro
  all_goals try (first | with_reducible assumption | (with_reducible refine ck_nzI ?_; simp; done) | (with_reducible refine ck_nzL ?_; simp; done) | (with_reducible refine vp_in_nI ?_ ?_ <;> first | omega | decide) | (with_reducible refine Nat.le_of_ble_eq_true ?_; rfl) | omega | (unfold vp_in; decide))
  refine hN.1 199 _ _ _ _ _ _ _ 11 _ _ _ _ _ _ _ _ _ _ lL_199 hM ⟨by decide, rfl⟩ h93 rfl rfl (Nat.le_of_ble_eq_true rfl) (by omega) (by decide) (by omega) (by omega) dL_law__1663 ?_
  rintro r3 P3 s3 ⟨e3, v, S2, go2, e4, hT, hk0, hI, h34, h143b, hgo0⟩
  obtain ⟨b9, e5⟩ := hT.2 (by decide)
  subst e5
  rw [e3, e4]
  have h34 := h34.trans h3
  have h93b := cI_93 hI
  have hth := cI_th l G hI
  rw [hk0] at hth
  dsimp only [Option.toList, List.cons_append, List.nil_append]
  refine hB bL_law__1666 _ _ _ _ _ _ _ kL_law__1666 ?_
  dsimp only [bL_law__1666, kx_wp, kx_step, kx_lI, kx_lL, kx_lA, kx_gl, kx_pI, kx_pL, kx_pR, kx_pA, kx_pV, kx_s1, kx_s2, kx_sl, kx_pre, kx_c2, kx_pl, kx_cmp, kx_oF, kx_eqN, kx_nil, kx_c1, kx_ft, kx_aI, kx_aL, kx_aR, kx_ln, Nat.reduceAdd, Option.toList, List.cons_append, List.nil_append]
  repeat (simp only [e1x, c1x, e2x, c2x, e3x, c3x, e4x, c4x, e5x, c5x, h143b, hc0]; try dsimp only [kx_wp, kx_step, kx_lI, kx_lL, kx_lA, kx_gl, kx_pI, kx_pL, kx_pR, kx_pA, kx_pV, kx_s1, kx_s2, kx_sl, kx_pre, kx_c2, kx_pl, kx_cmp, kx_oF, kx_eqN, kx_nil, kx_c1, kx_ft, kx_aI, kx_aL, kx_aR, kx_ln, Nat.reduceAdd, Option.toList, List.cons_append, List.nil_append])
  repeat' apply And.intro
  all_goals try (first | with_reducible assumption | (with_reducible refine ck_nzI ?_; simp; done) | (with_reducible refine ck_nzL ?_; simp; done) | (with_reducible refine vp_in_nI ?_ ?_ <;> first | omega | decide) | (with_reducible refine Nat.le_of_ble_eq_true ?_; rfl) | omega | (unfold vp_in; decide))
  refine hN.1 120 _ _ _ _ _ _ _ 11 _ _ _ _ _ _ _ _ _ _ lL_120 hth.n ⟨by decide, rfl⟩ h93b rfl rfl (Nat.le_of_ble_eq_true rfl) (by omega) (by decide) (by omega) (by omega) dL_law__1669 ?_
  rintro r4 P4 s4 ⟨e6, e7, e8⟩
  rw [e6, e7, e8]
  dsimp only [Option.toList, List.cons_append, List.nil_append]
  refine hB bL_law__1672 _ _ _ _ _ _ _ kL_law__1672 ?_
  dsimp only [bL_law__1672, kx_wp, kx_step, kx_lI, kx_lL, kx_lA, kx_gl, kx_pI, kx_pL, kx_pR, kx_pA, kx_pV, kx_s1, kx_s2, kx_sl, kx_pre, kx_c2, kx_pl, kx_cmp, kx_oF, kx_eqN, kx_nil, kx_c1, kx_ft, kx_aI, kx_aL, kx_aR, kx_ln, Nat.reduceAdd, Option.toList, List.cons_append, List.nil_append]
  repeat (simp only [e1x, c1x, e2x, c2x, e3x, c3x, e4x, c4x, e5x, c5x, h143b, hc0]; try dsimp only [kx_wp, kx_step, kx_lI, kx_lL, kx_lA, kx_gl, kx_pI, kx_pL, kx_pR, kx_pA, kx_pV, kx_s1, kx_s2, kx_sl, kx_pre, kx_c2, kx_pl, kx_cmp, kx_oF, kx_eqN, kx_nil, kx_c1, kx_ft, kx_aI, kx_aL, kx_aR, kx_ln, Nat.reduceAdd, Option.toList, List.cons_append, List.nil_append])
  repeat' apply And.intro
  all_goals try (first | with_reducible assumption | (with_reducible refine ck_nzI ?_; simp; done) | (with_reducible refine ck_nzL ?_; simp; done) | (with_reducible refine vp_in_nI ?_ ?_ <;> first | omega | decide) | (with_reducible refine Nat.le_of_ble_eq_true ?_; rfl) | omega | (unfold vp_in; decide))
  · intro zc1674
    refine hB bL_law__1679 _ _ _ _ _ _ _ kL_law__1679 ?_
    dsimp only [bL_law__1679, kx_wp, kx_step, kx_lI, kx_lL, kx_lA, kx_gl, kx_pI, kx_pL, kx_pR, kx_pA, kx_pV, kx_s1, kx_s2, kx_sl, kx_pre, kx_c2, kx_pl, kx_cmp, kx_oF, kx_eqN, kx_nil, kx_c1, kx_ft, kx_aI, kx_aL, kx_aR, kx_ln, Nat.reduceAdd, Option.toList, List.cons_append, List.nil_append]
    repeat (simp only [e1x, c1x, e2x, c2x, e3x, c3x, e4x, c4x, e5x, c5x, h143b, hc0]; try dsimp only [kx_wp, kx_step, kx_lI, kx_lL, kx_lA, kx_gl, kx_pI, kx_pL, kx_pR, kx_pA, kx_pV, kx_s1, kx_s2, kx_sl, kx_pre, kx_c2, kx_pl, kx_cmp, kx_oF, kx_eqN, kx_nil, kx_c1, kx_ft, kx_aI, kx_aL, kx_aR, kx_ln, Nat.reduceAdd, Option.toList, List.cons_append, List.nil_append])
    repeat' apply And.intro
    all_goals try (first | with_reducible assumption | (with_reducible refine ck_nzI ?_; simp; done) | (with_reducible refine ck_nzL ?_; simp; done) | (with_reducible refine vp_in_nI ?_ ?_ <;> first | omega | decide) | (with_reducible refine Nat.le_of_ble_eq_true ?_; rfl) | omega | (unfold vp_in; decide))
    · intro zc1681
      refine hB bL_law__1696 _ _ _ _ _ _ _ kL_law__1696 ?_
      dsimp only [bL_law__1696, kx_wp, kx_step, kx_lI, kx_lL, kx_lA, kx_gl, kx_pI, kx_pL, kx_pR, kx_pA, kx_pV, kx_s1, kx_s2, kx_sl, kx_pre, kx_c2, kx_pl, kx_cmp, kx_oF, kx_eqN, kx_nil, kx_c1, kx_ft, kx_aI, kx_aL, kx_aR, kx_ln, Nat.reduceAdd, Option.toList, List.cons_append, List.nil_append]
      repeat (simp only [e1x, c1x, e2x, c2x, e3x, c3x, e4x, c4x, e5x, c5x, h143b, hc0]; try dsimp only [kx_wp, kx_step, kx_lI, kx_lL, kx_lA, kx_gl, kx_pI, kx_pL, kx_pR, kx_pA, kx_pV, kx_s1, kx_s2, kx_sl, kx_pre, kx_c2, kx_pl, kx_cmp, kx_oF, kx_eqN, kx_nil, kx_c1, kx_ft, kx_aI, kx_aL, kx_aR, kx_ln, Nat.reduceAdd, Option.toList, List.cons_append, List.nil_append])
      repeat' apply And.intro
      all_goals try (first | with_reducible assumption | (with_reducible refine ck_nzI ?_; simp; done) | (with_reducible refine ck_nzL ?_; simp; done) | (with_reducible refine vp_in_nI ?_ ?_ <;> first | omega | decide) | (with_reducible refine Nat.le_of_ble_eq_true ?_; rfl) | omega | (unfold vp_in; decide))
      exact hgo P3 s2 S2 cl1 mi1 se1 bl1 go2 _ _ _ _ _ hI h34 h143b (by omega) (by omega) (by omega)
    · intro zc1681
      refine hB bL_law__1684 _ _ _ _ _ _ _ kL_law__1684 ?_
      dsimp only [bL_law__1684, kx_wp, kx_step, kx_lI, kx_lL, kx_lA, kx_gl, kx_pI, kx_pL, kx_pR, kx_pA, kx_pV, kx_s1, kx_s2, kx_sl, kx_pre, kx_c2, kx_pl, kx_cmp, kx_oF, kx_eqN, kx_nil, kx_c1, kx_ft, kx_aI, kx_aL, kx_aR, kx_ln, Nat.reduceAdd, Option.toList, List.cons_append, List.nil_append]
      repeat (simp only [e1x, c1x, e2x, c2x, e3x, c3x, e4x, c4x, e5x, c5x, h143b, hc0]; try dsimp only [kx_wp, kx_step, kx_lI, kx_lL, kx_lA, kx_gl, kx_pI, kx_pL, kx_pR, kx_pA, kx_pV, kx_s1, kx_s2, kx_sl, kx_pre, kx_c2, kx_pl, kx_cmp, kx_oF, kx_eqN, kx_nil, kx_c1, kx_ft, kx_aI, kx_aL, kx_aR, kx_ln, Nat.reduceAdd, Option.toList, List.cons_append, List.nil_append])
      repeat' apply And.intro
      all_goals try (first | with_reducible assumption | (with_reducible refine ck_nzI ?_; simp; done) | (with_reducible refine ck_nzL ?_; simp; done) | (with_reducible refine vp_in_nI ?_ ?_ <;> first | omega | decide) | (with_reducible refine Nat.le_of_ble_eq_true ?_; rfl) | omega | (unfold vp_in; decide))
      · intro zc1691
        refine hB bL_law__1696 _ _ _ _ _ _ _ kL_law__1696 ?_
        dsimp only [bL_law__1696, kx_wp, kx_step, kx_lI, kx_lL, kx_lA, kx_gl, kx_pI, kx_pL, kx_pR, kx_pA, kx_pV, kx_s1, kx_s2, kx_sl, kx_pre, kx_c2, kx_pl, kx_cmp, kx_oF, kx_eqN, kx_nil, kx_c1, kx_ft, kx_aI, kx_aL, kx_aR, kx_ln, Nat.reduceAdd, Option.toList, List.cons_append, List.nil_append]
        repeat (simp only [e1x, c1x, e2x, c2x, e3x, c3x, e4x, c4x, e5x, c5x, h143b, hc0]; try dsimp only [kx_wp, kx_step, kx_lI, kx_lL, kx_lA, kx_gl, kx_pI, kx_pL, kx_pR, kx_pA, kx_pV, kx_s1, kx_s2, kx_sl, kx_pre, kx_c2, kx_pl, kx_cmp, kx_oF, kx_eqN, kx_nil, kx_c1, kx_ft, kx_aI, kx_aL, kx_aR, kx_ln, Nat.reduceAdd, Option.toList, List.cons_append, List.nil_append])
        repeat' apply And.intro
        all_goals try (first | with_reducible assumption | (with_reducible refine ck_nzI ?_; simp; done) | (with_reducible refine ck_nzL ?_; simp; done) | (with_reducible refine vp_in_nI ?_ ?_ <;> first | omega | decide) | (with_reducible refine Nat.le_of_ble_eq_true ?_; rfl) | omega | (unfold vp_in; decide))
        exact hgo P3 s2 S2 cl1 mi1 se1 bl1 go2 _ _ _ _ _ hI h34 h143b (by omega) (by omega) (by omega)
      · intro zc1691
        first | exact absurd rfl zc1691 | exact absurd zc1691 (by decide) | exact absurd (by decide) zc1691 | (exfalso; first | exact zc1691 (by rw [hgo0 (Decidable.not_not.mp zc1681)]; exact lg_cmp_s _)) | (exfalso; simp_all; done)
  · intro zc1674
    first | exact absurd rfl zc1674 | exact absurd zc1674 (by decide) | exact absurd (by decide) zc1674 | (exfalso; first | exact zc1691 (by rw [hgo0 (Decidable.not_not.mp zc1681)]; exact lg_cmp_s _)) | (exfalso; simp_all; done)

set_option maxRecDepth 100000 in
set_option maxHeartbeats 4000000 in
theorem cj_plan (l : Launch) (G : kx_G) (hst : l.stackTraces = false) {P : kx_P} {sz : Nat} {M : Nat → Int32} {A : Nat → Nat → Int32} {L : Nat → Nat → Int64} {cl mi se : Nat} {bl : Nat → Nat} {go : Nat → Int64} {Ln i k n : Nat} {xs : Nat → Int32} {o5 o6 o7 : Option Value} {g : kx_F} (h : cI P sz (M, A, L) cl mi se bl) (h3 : P 3 = kI 5 Ln xs) (h143 : P 143 = kL 1 go) (hi : i + 6 ≤ Ln) (hL : Ln ≤ 3072) (hk : k + 8 ≤ 601024) (hn : n + cro bl + 2206 ≤ 7293033) (hse : se ≤ 999) (hB : kx_rB kxL_L false cL_law_ 601024 7293033 (fun r _ _ => r = some (.int 1)) g) (hN : kx_rN l G RL cL_law_ 60 601024 7293033 g) (hW : kx_rW l G RL cL_law_ 60 601024 7293033 g) (hgo : cAf g Ln xs i se k n bl) : g 1699 [some (.ref 3), some (.ref 64), some (.ref 93), some (.ref 143), some (.int (nI i)), o5, o6, o7] [] P sz k n := by
  have e1x : nI i + 1 = nI (i + 1) := by rw [show (1 : Int32) = nI 1 from rfl, nI_add]
  have c1x : (nI (i + 1)).toNatClampNeg = i + 1 := nI_clamp (by omega)
  have e2x : nI i + 2 = nI (i + 2) := by rw [show (2 : Int32) = nI 2 from rfl, nI_add]
  have c2x : (nI (i + 2)).toNatClampNeg = i + 2 := nI_clamp (by omega)
  have e3x : nI i + 3 = nI (i + 3) := by rw [show (3 : Int32) = nI 3 from rfl, nI_add]
  have c3x : (nI (i + 3)).toNatClampNeg = i + 3 := nI_clamp (by omega)
  have e4x : nI i + 4 = nI (i + 4) := by rw [show (4 : Int32) = nI 4 from rfl, nI_add]
  have c4x : (nI (i + 4)).toNatClampNeg = i + 4 := nI_clamp (by omega)
  have e5x : nI i + 5 = nI (i + 5) := by rw [show (5 : Int32) = nI 5 from rfl, nI_add]
  have c5x : (nI (i + 5)).toNatClampNeg = i + 5 := nI_clamp (by omega)
  have hc0 : (0 : Int32).toNatClampNeg = 0 := rfl
  obtain ⟨f64, h64⟩ := cI_k64 h
  have hs := cs_plan l G hst h hse (xs (i + 1)) (xs (i + 2)) (xs (i + 3)) (xs (i + 4))
  obtain ⟨k9, dw, dm, mc, ms, cl1, mi1, se1, bl1, Q, q1, q2, q3, q4, q5, hw, hmo⟩ := cSs.s (yw := sL_plan) (hh := hL_plan) (Aw := [.ref 64, .int (xs (i + 1)), .int (xs (i + 2)), .int (xs (i + 3)), .int (xs (i + 4)), .ref 143]) h h143 hs (fun d mc ms Po => cw_plan_t l G h64) (fun p hp => by
    simp only [List.mem_cons, List.not_mem_nil, or_false] at hp
    rcases hp with rfl
    · exact ⟨by decide, fun d => cw_plan_x0 l G h64⟩)
  refine hB bL_law__1699 _ _ _ _ _ _ _ kL_law__1699 ?_
  dsimp only [bL_law__1699, kx_wp, kx_step, kx_lI, kx_lL, kx_lA, kx_gl, kx_pI, kx_pL, kx_pR, kx_pA, kx_pV, kx_s1, kx_s2, kx_sl, kx_pre, kx_c2, kx_pl, kx_cmp, kx_oF, kx_eqN, kx_nil, kx_c1, kx_ft, kx_aI, kx_aL, kx_aR, kx_ln, Nat.reduceAdd, Option.toList, List.cons_append, List.nil_append]
  repeat (simp only [e1x, c1x, e2x, c2x, e3x, c3x, e4x, c4x, e5x, c5x, h3]; try dsimp only [kx_wp, kx_step, kx_lI, kx_lL, kx_lA, kx_gl, kx_pI, kx_pL, kx_pR, kx_pA, kx_pV, kx_s1, kx_s2, kx_sl, kx_pre, kx_c2, kx_pl, kx_cmp, kx_oF, kx_eqN, kx_nil, kx_c1, kx_ft, kx_aI, kx_aL, kx_aR, kx_ln, Nat.reduceAdd, Option.toList, List.cons_append, List.nil_append])
  repeat' apply And.intro
  all_goals try (first | with_reducible assumption | (with_reducible refine ck_nzI ?_; simp; done) | (with_reducible refine ck_nzL ?_; simp; done) | (with_reducible refine vp_in_nI ?_ ?_ <;> first | omega | decide) | (with_reducible refine Nat.le_of_ble_eq_true ?_; rfl) | omega | (unfold vp_in; decide))
  refine hW 200 _ _ _ _ _ _ _ _ _ _ _ _ _ _ _ _ lL_200 hw rfl rfl (Nat.le_of_ble_eq_true rfl) (by omega) (by decide) (by omega) (by omega) dL_law__1725 ?_
  rintro r2 P2 s2 ⟨e2, hQ⟩
  rw [e2]
  obtain ⟨⟨fm, h93⟩, h33, hM⟩ := hmo P2 s2 hQ
  have h33 := h33.trans h3
  dsimp only [Option.toList, List.cons_append, List.nil_append]
  refine hB bL_law__1728 _ _ _ _ _ _ _ kL_law__1728 ?_
  dsimp only [bL_law__1728, kx_wp, kx_step, kx_lI, kx_lL, kx_lA, kx_gl, kx_pI, kx_pL, kx_pR, kx_pA, kx_pV, kx_s1, kx_s2, kx_sl, kx_pre, kx_c2, kx_pl, kx_cmp, kx_oF, kx_eqN, kx_nil, kx_c1, kx_ft, kx_aI, kx_aL, kx_aR, kx_ln, Nat.reduceAdd, Option.toList, List.cons_append, List.nil_append]
  repeat (simp only [e1x, c1x, e2x, c2x, e3x, c3x, e4x, c4x, e5x, c5x, h33]; try dsimp only [kx_wp, kx_step, kx_lI, kx_lL, kx_lA, kx_gl, kx_pI, kx_pL, kx_pR, kx_pA, kx_pV, kx_s1, kx_s2, kx_sl, kx_pre, kx_c2, kx_pl, kx_cmp, kx_oF, kx_eqN, kx_nil, kx_c1, kx_ft, kx_aI, kx_aL, kx_aR, kx_ln, Nat.reduceAdd, Option.toList, List.cons_append, List.nil_append])
  repeat' apply And.intro
  all_goals try (first | with_reducible assumption | (with_reducible refine ck_nzI ?_; simp; done) | (with_reducible refine ck_nzL ?_; simp; done) | (with_reducible refine vp_in_nI ?_ ?_ <;> first | omega | decide) | (with_reducible refine Nat.le_of_ble_eq_true ?_; rfl) | omega | (unfold vp_in; decide))
  refine hN.1 202 _ _ _ _ _ _ _ 11 _ _ _ _ _ _ _ _ _ _ lL_202 hM ⟨by decide, rfl⟩ h93 rfl rfl (Nat.le_of_ble_eq_true rfl) (by omega) (by decide) (by omega) (by omega) dL_law__1755 ?_
  rintro r3 P3 s3 ⟨e3, v, S2, go2, e4, hT, hk0, hI, h34, h143b, hgo0⟩
  obtain ⟨b9, e5⟩ := hT.2 (by decide)
  subst e5
  rw [e3, e4]
  have h34 := h34.trans h3
  have h93b := cI_93 hI
  have hth := cI_th l G hI
  rw [hk0] at hth
  dsimp only [Option.toList, List.cons_append, List.nil_append]
  refine hB bL_law__1758 _ _ _ _ _ _ _ kL_law__1758 ?_
  dsimp only [bL_law__1758, kx_wp, kx_step, kx_lI, kx_lL, kx_lA, kx_gl, kx_pI, kx_pL, kx_pR, kx_pA, kx_pV, kx_s1, kx_s2, kx_sl, kx_pre, kx_c2, kx_pl, kx_cmp, kx_oF, kx_eqN, kx_nil, kx_c1, kx_ft, kx_aI, kx_aL, kx_aR, kx_ln, Nat.reduceAdd, Option.toList, List.cons_append, List.nil_append]
  repeat (simp only [e1x, c1x, e2x, c2x, e3x, c3x, e4x, c4x, e5x, c5x, h143b, hc0]; try dsimp only [kx_wp, kx_step, kx_lI, kx_lL, kx_lA, kx_gl, kx_pI, kx_pL, kx_pR, kx_pA, kx_pV, kx_s1, kx_s2, kx_sl, kx_pre, kx_c2, kx_pl, kx_cmp, kx_oF, kx_eqN, kx_nil, kx_c1, kx_ft, kx_aI, kx_aL, kx_aR, kx_ln, Nat.reduceAdd, Option.toList, List.cons_append, List.nil_append])
  repeat' apply And.intro
  all_goals try (first | with_reducible assumption | (with_reducible refine ck_nzI ?_; simp; done) | (with_reducible refine ck_nzL ?_; simp; done) | (with_reducible refine vp_in_nI ?_ ?_ <;> first | omega | decide) | (with_reducible refine Nat.le_of_ble_eq_true ?_; rfl) | omega | (unfold vp_in; decide))
  refine hN.1 120 _ _ _ _ _ _ _ 11 _ _ _ _ _ _ _ _ _ _ lL_120 hth.n ⟨by decide, rfl⟩ h93b rfl rfl (Nat.le_of_ble_eq_true rfl) (by omega) (by decide) (by omega) (by omega) dL_law__1761 ?_
  rintro r4 P4 s4 ⟨e6, e7, e8⟩
  rw [e6, e7, e8]
  dsimp only [Option.toList, List.cons_append, List.nil_append]
  refine hB bL_law__1764 _ _ _ _ _ _ _ kL_law__1764 ?_
  dsimp only [bL_law__1764, kx_wp, kx_step, kx_lI, kx_lL, kx_lA, kx_gl, kx_pI, kx_pL, kx_pR, kx_pA, kx_pV, kx_s1, kx_s2, kx_sl, kx_pre, kx_c2, kx_pl, kx_cmp, kx_oF, kx_eqN, kx_nil, kx_c1, kx_ft, kx_aI, kx_aL, kx_aR, kx_ln, Nat.reduceAdd, Option.toList, List.cons_append, List.nil_append]
  repeat (simp only [e1x, c1x, e2x, c2x, e3x, c3x, e4x, c4x, e5x, c5x, h143b, hc0]; try dsimp only [kx_wp, kx_step, kx_lI, kx_lL, kx_lA, kx_gl, kx_pI, kx_pL, kx_pR, kx_pA, kx_pV, kx_s1, kx_s2, kx_sl, kx_pre, kx_c2, kx_pl, kx_cmp, kx_oF, kx_eqN, kx_nil, kx_c1, kx_ft, kx_aI, kx_aL, kx_aR, kx_ln, Nat.reduceAdd, Option.toList, List.cons_append, List.nil_append])
  repeat' apply And.intro
  all_goals try (first | with_reducible assumption | (with_reducible refine ck_nzI ?_; simp; done) | (with_reducible refine ck_nzL ?_; simp; done) | (with_reducible refine vp_in_nI ?_ ?_ <;> first | omega | decide) | (with_reducible refine Nat.le_of_ble_eq_true ?_; rfl) | omega | (unfold vp_in; decide))
  · intro zc1766
    refine hB bL_law__1771 _ _ _ _ _ _ _ kL_law__1771 ?_
    dsimp only [bL_law__1771, kx_wp, kx_step, kx_lI, kx_lL, kx_lA, kx_gl, kx_pI, kx_pL, kx_pR, kx_pA, kx_pV, kx_s1, kx_s2, kx_sl, kx_pre, kx_c2, kx_pl, kx_cmp, kx_oF, kx_eqN, kx_nil, kx_c1, kx_ft, kx_aI, kx_aL, kx_aR, kx_ln, Nat.reduceAdd, Option.toList, List.cons_append, List.nil_append]
    repeat (simp only [e1x, c1x, e2x, c2x, e3x, c3x, e4x, c4x, e5x, c5x, h143b, hc0]; try dsimp only [kx_wp, kx_step, kx_lI, kx_lL, kx_lA, kx_gl, kx_pI, kx_pL, kx_pR, kx_pA, kx_pV, kx_s1, kx_s2, kx_sl, kx_pre, kx_c2, kx_pl, kx_cmp, kx_oF, kx_eqN, kx_nil, kx_c1, kx_ft, kx_aI, kx_aL, kx_aR, kx_ln, Nat.reduceAdd, Option.toList, List.cons_append, List.nil_append])
    repeat' apply And.intro
    all_goals try (first | with_reducible assumption | (with_reducible refine ck_nzI ?_; simp; done) | (with_reducible refine ck_nzL ?_; simp; done) | (with_reducible refine vp_in_nI ?_ ?_ <;> first | omega | decide) | (with_reducible refine Nat.le_of_ble_eq_true ?_; rfl) | omega | (unfold vp_in; decide))
    · intro zc1773
      refine hB bL_law__1788 _ _ _ _ _ _ _ kL_law__1788 ?_
      dsimp only [bL_law__1788, kx_wp, kx_step, kx_lI, kx_lL, kx_lA, kx_gl, kx_pI, kx_pL, kx_pR, kx_pA, kx_pV, kx_s1, kx_s2, kx_sl, kx_pre, kx_c2, kx_pl, kx_cmp, kx_oF, kx_eqN, kx_nil, kx_c1, kx_ft, kx_aI, kx_aL, kx_aR, kx_ln, Nat.reduceAdd, Option.toList, List.cons_append, List.nil_append]
      repeat (simp only [e1x, c1x, e2x, c2x, e3x, c3x, e4x, c4x, e5x, c5x, h143b, hc0]; try dsimp only [kx_wp, kx_step, kx_lI, kx_lL, kx_lA, kx_gl, kx_pI, kx_pL, kx_pR, kx_pA, kx_pV, kx_s1, kx_s2, kx_sl, kx_pre, kx_c2, kx_pl, kx_cmp, kx_oF, kx_eqN, kx_nil, kx_c1, kx_ft, kx_aI, kx_aL, kx_aR, kx_ln, Nat.reduceAdd, Option.toList, List.cons_append, List.nil_append])
      repeat' apply And.intro
      all_goals try (first | with_reducible assumption | (with_reducible refine ck_nzI ?_; simp; done) | (with_reducible refine ck_nzL ?_; simp; done) | (with_reducible refine vp_in_nI ?_ ?_ <;> first | omega | decide) | (with_reducible refine Nat.le_of_ble_eq_true ?_; rfl) | omega | (unfold vp_in; decide))
      exact hgo P3 s2 S2 cl1 mi1 se1 bl1 go2 _ _ _ _ _ hI h34 h143b (by omega) (by omega) (by omega)
    · intro zc1773
      refine hB bL_law__1776 _ _ _ _ _ _ _ kL_law__1776 ?_
      dsimp only [bL_law__1776, kx_wp, kx_step, kx_lI, kx_lL, kx_lA, kx_gl, kx_pI, kx_pL, kx_pR, kx_pA, kx_pV, kx_s1, kx_s2, kx_sl, kx_pre, kx_c2, kx_pl, kx_cmp, kx_oF, kx_eqN, kx_nil, kx_c1, kx_ft, kx_aI, kx_aL, kx_aR, kx_ln, Nat.reduceAdd, Option.toList, List.cons_append, List.nil_append]
      repeat (simp only [e1x, c1x, e2x, c2x, e3x, c3x, e4x, c4x, e5x, c5x, h143b, hc0]; try dsimp only [kx_wp, kx_step, kx_lI, kx_lL, kx_lA, kx_gl, kx_pI, kx_pL, kx_pR, kx_pA, kx_pV, kx_s1, kx_s2, kx_sl, kx_pre, kx_c2, kx_pl, kx_cmp, kx_oF, kx_eqN, kx_nil, kx_c1, kx_ft, kx_aI, kx_aL, kx_aR, kx_ln, Nat.reduceAdd, Option.toList, List.cons_append, List.nil_append])
      repeat' apply And.intro
      all_goals try (first | with_reducible assumption | (with_reducible refine ck_nzI ?_; simp; done) | (with_reducible refine ck_nzL ?_; simp; done) | (with_reducible refine vp_in_nI ?_ ?_ <;> first | omega | decide) | (with_reducible refine Nat.le_of_ble_eq_true ?_; rfl) | omega | (unfold vp_in; decide))
      · intro zc1783
        refine hB bL_law__1788 _ _ _ _ _ _ _ kL_law__1788 ?_
        dsimp only [bL_law__1788, kx_wp, kx_step, kx_lI, kx_lL, kx_lA, kx_gl, kx_pI, kx_pL, kx_pR, kx_pA, kx_pV, kx_s1, kx_s2, kx_sl, kx_pre, kx_c2, kx_pl, kx_cmp, kx_oF, kx_eqN, kx_nil, kx_c1, kx_ft, kx_aI, kx_aL, kx_aR, kx_ln, Nat.reduceAdd, Option.toList, List.cons_append, List.nil_append]
        repeat (simp only [e1x, c1x, e2x, c2x, e3x, c3x, e4x, c4x, e5x, c5x, h143b, hc0]; try dsimp only [kx_wp, kx_step, kx_lI, kx_lL, kx_lA, kx_gl, kx_pI, kx_pL, kx_pR, kx_pA, kx_pV, kx_s1, kx_s2, kx_sl, kx_pre, kx_c2, kx_pl, kx_cmp, kx_oF, kx_eqN, kx_nil, kx_c1, kx_ft, kx_aI, kx_aL, kx_aR, kx_ln, Nat.reduceAdd, Option.toList, List.cons_append, List.nil_append])
        repeat' apply And.intro
        all_goals try (first | with_reducible assumption | (with_reducible refine ck_nzI ?_; simp; done) | (with_reducible refine ck_nzL ?_; simp; done) | (with_reducible refine vp_in_nI ?_ ?_ <;> first | omega | decide) | (with_reducible refine Nat.le_of_ble_eq_true ?_; rfl) | omega | (unfold vp_in; decide))
        exact hgo P3 s2 S2 cl1 mi1 se1 bl1 go2 _ _ _ _ _ hI h34 h143b (by omega) (by omega) (by omega)
      · intro zc1783
        first | exact absurd rfl zc1783 | exact absurd zc1783 (by decide) | exact absurd (by decide) zc1783 | (exfalso; first | exact zc1783 (by rw [hgo0 (Decidable.not_not.mp zc1773)]; exact lg_cmp_s _)) | (exfalso; simp_all; done)
  · intro zc1766
    first | exact absurd rfl zc1766 | exact absurd zc1766 (by decide) | exact absurd (by decide) zc1766 | (exfalso; first | exact zc1783 (by rw [hgo0 (Decidable.not_not.mp zc1773)]; exact lg_cmp_s _)) | (exfalso; simp_all; done)

set_option maxRecDepth 100000 in
set_option maxHeartbeats 4000000 in
theorem cj_read (l : Launch) (G : kx_G) (hst : l.stackTraces = false) {P : kx_P} {sz : Nat} {M : Nat → Int32} {A : Nat → Nat → Int32} {L : Nat → Nat → Int64} {cl mi se : Nat} {bl : Nat → Nat} {go : Nat → Int64} {Ln i k n : Nat} {xs : Nat → Int32} {o5 o6 o7 : Option Value} {g : kx_F} (h : cI P sz (M, A, L) cl mi se bl) (h3 : P 3 = kI 5 Ln xs) (h143 : P 143 = kL 1 go) (hi : i + 6 ≤ Ln) (hL : Ln ≤ 3072) (hk : k + 8 ≤ 601024) (hn : n + cro bl + 2206 ≤ 7293033) (hse : se ≤ 999) (hB : kx_rB kxL_L false cL_law_ 601024 7293033 (fun r _ _ => r = some (.int 1)) g) (hN : kx_rN l G RL cL_law_ 60 601024 7293033 g) (hW : kx_rW l G RL cL_law_ 60 601024 7293033 g) (hgo : cAf g Ln xs i se k n bl) : g 1791 [some (.ref 3), some (.ref 64), some (.ref 93), some (.ref 143), some (.int (nI i)), o5, o6, o7] [] P sz k n := by
  have e1x : nI i + 1 = nI (i + 1) := by rw [show (1 : Int32) = nI 1 from rfl, nI_add]
  have c1x : (nI (i + 1)).toNatClampNeg = i + 1 := nI_clamp (by omega)
  have e2x : nI i + 2 = nI (i + 2) := by rw [show (2 : Int32) = nI 2 from rfl, nI_add]
  have c2x : (nI (i + 2)).toNatClampNeg = i + 2 := nI_clamp (by omega)
  have e3x : nI i + 3 = nI (i + 3) := by rw [show (3 : Int32) = nI 3 from rfl, nI_add]
  have c3x : (nI (i + 3)).toNatClampNeg = i + 3 := nI_clamp (by omega)
  have e4x : nI i + 4 = nI (i + 4) := by rw [show (4 : Int32) = nI 4 from rfl, nI_add]
  have c4x : (nI (i + 4)).toNatClampNeg = i + 4 := nI_clamp (by omega)
  have e5x : nI i + 5 = nI (i + 5) := by rw [show (5 : Int32) = nI 5 from rfl, nI_add]
  have c5x : (nI (i + 5)).toNatClampNeg = i + 5 := nI_clamp (by omega)
  have hc0 : (0 : Int32).toNatClampNeg = 0 := rfl
  obtain ⟨f64, h64⟩ := cI_k64 h
  have hs := cs_read l G hst h (xs (i + 1)) (xs (i + 2)) (xs (i + 3))
  obtain ⟨k9, dw, dm, mc, ms, cl1, mi1, se1, bl1, Q, q1, q2, q3, q4, q5, hw, hmo⟩ := cSs.s (yw := sL_read) (hh := hL_read) (Aw := [.ref 64, .int (xs (i + 1)), .int (xs (i + 2)), .int (xs (i + 3)), .ref 143]) h h143 hs (fun d mc ms Po => cw_read_t l G h64) (fun p hp => by
    simp only [List.mem_cons, List.not_mem_nil, or_false] at hp
    rcases hp with rfl | rfl
    · exact ⟨by decide, fun d => cw_read_x0 l G h64⟩
    · exact ⟨by decide, fun d => cw_read_x1 l G h64⟩)
  refine hB bL_law__1791 _ _ _ _ _ _ _ kL_law__1791 ?_
  dsimp only [bL_law__1791, kx_wp, kx_step, kx_lI, kx_lL, kx_lA, kx_gl, kx_pI, kx_pL, kx_pR, kx_pA, kx_pV, kx_s1, kx_s2, kx_sl, kx_pre, kx_c2, kx_pl, kx_cmp, kx_oF, kx_eqN, kx_nil, kx_c1, kx_ft, kx_aI, kx_aL, kx_aR, kx_ln, Nat.reduceAdd, Option.toList, List.cons_append, List.nil_append]
  repeat (simp only [e1x, c1x, e2x, c2x, e3x, c3x, e4x, c4x, e5x, c5x, h3]; try dsimp only [kx_wp, kx_step, kx_lI, kx_lL, kx_lA, kx_gl, kx_pI, kx_pL, kx_pR, kx_pA, kx_pV, kx_s1, kx_s2, kx_sl, kx_pre, kx_c2, kx_pl, kx_cmp, kx_oF, kx_eqN, kx_nil, kx_c1, kx_ft, kx_aI, kx_aL, kx_aR, kx_ln, Nat.reduceAdd, Option.toList, List.cons_append, List.nil_append])
  repeat' apply And.intro
  all_goals try (first | with_reducible assumption | (with_reducible refine ck_nzI ?_; simp; done) | (with_reducible refine ck_nzL ?_; simp; done) | (with_reducible refine vp_in_nI ?_ ?_ <;> first | omega | decide) | (with_reducible refine Nat.le_of_ble_eq_true ?_; rfl) | omega | (unfold vp_in; decide))
  refine hW 203 _ _ _ _ _ _ _ _ _ _ _ _ _ _ _ _ lL_203 hw rfl rfl (Nat.le_of_ble_eq_true rfl) (by omega) (by decide) (by omega) (by omega) dL_law__1811 ?_
  rintro r2 P2 s2 ⟨e2, hQ⟩
  rw [e2]
  obtain ⟨⟨fm, h93⟩, h33, hM⟩ := hmo P2 s2 hQ
  have h33 := h33.trans h3
  dsimp only [Option.toList, List.cons_append, List.nil_append]
  refine hB bL_law__1814 _ _ _ _ _ _ _ kL_law__1814 ?_
  dsimp only [bL_law__1814, kx_wp, kx_step, kx_lI, kx_lL, kx_lA, kx_gl, kx_pI, kx_pL, kx_pR, kx_pA, kx_pV, kx_s1, kx_s2, kx_sl, kx_pre, kx_c2, kx_pl, kx_cmp, kx_oF, kx_eqN, kx_nil, kx_c1, kx_ft, kx_aI, kx_aL, kx_aR, kx_ln, Nat.reduceAdd, Option.toList, List.cons_append, List.nil_append]
  repeat (simp only [e1x, c1x, e2x, c2x, e3x, c3x, e4x, c4x, e5x, c5x, h33]; try dsimp only [kx_wp, kx_step, kx_lI, kx_lL, kx_lA, kx_gl, kx_pI, kx_pL, kx_pR, kx_pA, kx_pV, kx_s1, kx_s2, kx_sl, kx_pre, kx_c2, kx_pl, kx_cmp, kx_oF, kx_eqN, kx_nil, kx_c1, kx_ft, kx_aI, kx_aL, kx_aR, kx_ln, Nat.reduceAdd, Option.toList, List.cons_append, List.nil_append])
  repeat' apply And.intro
  all_goals try (first | with_reducible assumption | (with_reducible refine ck_nzI ?_; simp; done) | (with_reducible refine ck_nzL ?_; simp; done) | (with_reducible refine vp_in_nI ?_ ?_ <;> first | omega | decide) | (with_reducible refine Nat.le_of_ble_eq_true ?_; rfl) | omega | (unfold vp_in; decide))
  refine hN.1 205 _ _ _ _ _ _ _ 11 _ _ _ _ _ _ _ _ _ _ lL_205 hM ⟨by decide, rfl⟩ h93 rfl rfl (Nat.le_of_ble_eq_true rfl) (by omega) (by decide) (by omega) (by omega) dL_law__1835 ?_
  rintro r3 P3 s3 ⟨e3, v, S2, go2, e4, hT, hk0, hI, h34, h143b, hgo0⟩
  obtain ⟨b9, e5⟩ := hT.2 (by decide)
  subst e5
  rw [e3, e4]
  have h34 := h34.trans h3
  have h93b := cI_93 hI
  have hth := cI_th l G hI
  rw [hk0] at hth
  dsimp only [Option.toList, List.cons_append, List.nil_append]
  refine hB bL_law__1838 _ _ _ _ _ _ _ kL_law__1838 ?_
  dsimp only [bL_law__1838, kx_wp, kx_step, kx_lI, kx_lL, kx_lA, kx_gl, kx_pI, kx_pL, kx_pR, kx_pA, kx_pV, kx_s1, kx_s2, kx_sl, kx_pre, kx_c2, kx_pl, kx_cmp, kx_oF, kx_eqN, kx_nil, kx_c1, kx_ft, kx_aI, kx_aL, kx_aR, kx_ln, Nat.reduceAdd, Option.toList, List.cons_append, List.nil_append]
  repeat (simp only [e1x, c1x, e2x, c2x, e3x, c3x, e4x, c4x, e5x, c5x, h143b, hc0]; try dsimp only [kx_wp, kx_step, kx_lI, kx_lL, kx_lA, kx_gl, kx_pI, kx_pL, kx_pR, kx_pA, kx_pV, kx_s1, kx_s2, kx_sl, kx_pre, kx_c2, kx_pl, kx_cmp, kx_oF, kx_eqN, kx_nil, kx_c1, kx_ft, kx_aI, kx_aL, kx_aR, kx_ln, Nat.reduceAdd, Option.toList, List.cons_append, List.nil_append])
  repeat' apply And.intro
  all_goals try (first | with_reducible assumption | (with_reducible refine ck_nzI ?_; simp; done) | (with_reducible refine ck_nzL ?_; simp; done) | (with_reducible refine vp_in_nI ?_ ?_ <;> first | omega | decide) | (with_reducible refine Nat.le_of_ble_eq_true ?_; rfl) | omega | (unfold vp_in; decide))
  refine hN.1 120 _ _ _ _ _ _ _ 11 _ _ _ _ _ _ _ _ _ _ lL_120 hth.n ⟨by decide, rfl⟩ h93b rfl rfl (Nat.le_of_ble_eq_true rfl) (by omega) (by decide) (by omega) (by omega) dL_law__1841 ?_
  rintro r4 P4 s4 ⟨e6, e7, e8⟩
  rw [e6, e7, e8]
  dsimp only [Option.toList, List.cons_append, List.nil_append]
  refine hB bL_law__1844 _ _ _ _ _ _ _ kL_law__1844 ?_
  dsimp only [bL_law__1844, kx_wp, kx_step, kx_lI, kx_lL, kx_lA, kx_gl, kx_pI, kx_pL, kx_pR, kx_pA, kx_pV, kx_s1, kx_s2, kx_sl, kx_pre, kx_c2, kx_pl, kx_cmp, kx_oF, kx_eqN, kx_nil, kx_c1, kx_ft, kx_aI, kx_aL, kx_aR, kx_ln, Nat.reduceAdd, Option.toList, List.cons_append, List.nil_append]
  repeat (simp only [e1x, c1x, e2x, c2x, e3x, c3x, e4x, c4x, e5x, c5x, h143b, hc0]; try dsimp only [kx_wp, kx_step, kx_lI, kx_lL, kx_lA, kx_gl, kx_pI, kx_pL, kx_pR, kx_pA, kx_pV, kx_s1, kx_s2, kx_sl, kx_pre, kx_c2, kx_pl, kx_cmp, kx_oF, kx_eqN, kx_nil, kx_c1, kx_ft, kx_aI, kx_aL, kx_aR, kx_ln, Nat.reduceAdd, Option.toList, List.cons_append, List.nil_append])
  repeat' apply And.intro
  all_goals try (first | with_reducible assumption | (with_reducible refine ck_nzI ?_; simp; done) | (with_reducible refine ck_nzL ?_; simp; done) | (with_reducible refine vp_in_nI ?_ ?_ <;> first | omega | decide) | (with_reducible refine Nat.le_of_ble_eq_true ?_; rfl) | omega | (unfold vp_in; decide))
  · intro zc1846
    refine hB bL_law__1851 _ _ _ _ _ _ _ kL_law__1851 ?_
    dsimp only [bL_law__1851, kx_wp, kx_step, kx_lI, kx_lL, kx_lA, kx_gl, kx_pI, kx_pL, kx_pR, kx_pA, kx_pV, kx_s1, kx_s2, kx_sl, kx_pre, kx_c2, kx_pl, kx_cmp, kx_oF, kx_eqN, kx_nil, kx_c1, kx_ft, kx_aI, kx_aL, kx_aR, kx_ln, Nat.reduceAdd, Option.toList, List.cons_append, List.nil_append]
    repeat (simp only [e1x, c1x, e2x, c2x, e3x, c3x, e4x, c4x, e5x, c5x, h143b, hc0]; try dsimp only [kx_wp, kx_step, kx_lI, kx_lL, kx_lA, kx_gl, kx_pI, kx_pL, kx_pR, kx_pA, kx_pV, kx_s1, kx_s2, kx_sl, kx_pre, kx_c2, kx_pl, kx_cmp, kx_oF, kx_eqN, kx_nil, kx_c1, kx_ft, kx_aI, kx_aL, kx_aR, kx_ln, Nat.reduceAdd, Option.toList, List.cons_append, List.nil_append])
    repeat' apply And.intro
    all_goals try (first | with_reducible assumption | (with_reducible refine ck_nzI ?_; simp; done) | (with_reducible refine ck_nzL ?_; simp; done) | (with_reducible refine vp_in_nI ?_ ?_ <;> first | omega | decide) | (with_reducible refine Nat.le_of_ble_eq_true ?_; rfl) | omega | (unfold vp_in; decide))
    · intro zc1853
      refine hB bL_law__1868 _ _ _ _ _ _ _ kL_law__1868 ?_
      dsimp only [bL_law__1868, kx_wp, kx_step, kx_lI, kx_lL, kx_lA, kx_gl, kx_pI, kx_pL, kx_pR, kx_pA, kx_pV, kx_s1, kx_s2, kx_sl, kx_pre, kx_c2, kx_pl, kx_cmp, kx_oF, kx_eqN, kx_nil, kx_c1, kx_ft, kx_aI, kx_aL, kx_aR, kx_ln, Nat.reduceAdd, Option.toList, List.cons_append, List.nil_append]
      repeat (simp only [e1x, c1x, e2x, c2x, e3x, c3x, e4x, c4x, e5x, c5x, h143b, hc0]; try dsimp only [kx_wp, kx_step, kx_lI, kx_lL, kx_lA, kx_gl, kx_pI, kx_pL, kx_pR, kx_pA, kx_pV, kx_s1, kx_s2, kx_sl, kx_pre, kx_c2, kx_pl, kx_cmp, kx_oF, kx_eqN, kx_nil, kx_c1, kx_ft, kx_aI, kx_aL, kx_aR, kx_ln, Nat.reduceAdd, Option.toList, List.cons_append, List.nil_append])
      repeat' apply And.intro
      all_goals try (first | with_reducible assumption | (with_reducible refine ck_nzI ?_; simp; done) | (with_reducible refine ck_nzL ?_; simp; done) | (with_reducible refine vp_in_nI ?_ ?_ <;> first | omega | decide) | (with_reducible refine Nat.le_of_ble_eq_true ?_; rfl) | omega | (unfold vp_in; decide))
      exact hgo P3 s2 S2 cl1 mi1 se1 bl1 go2 _ _ _ _ _ hI h34 h143b (by omega) (by omega) (by omega)
    · intro zc1853
      refine hB bL_law__1856 _ _ _ _ _ _ _ kL_law__1856 ?_
      dsimp only [bL_law__1856, kx_wp, kx_step, kx_lI, kx_lL, kx_lA, kx_gl, kx_pI, kx_pL, kx_pR, kx_pA, kx_pV, kx_s1, kx_s2, kx_sl, kx_pre, kx_c2, kx_pl, kx_cmp, kx_oF, kx_eqN, kx_nil, kx_c1, kx_ft, kx_aI, kx_aL, kx_aR, kx_ln, Nat.reduceAdd, Option.toList, List.cons_append, List.nil_append]
      repeat (simp only [e1x, c1x, e2x, c2x, e3x, c3x, e4x, c4x, e5x, c5x, h143b, hc0]; try dsimp only [kx_wp, kx_step, kx_lI, kx_lL, kx_lA, kx_gl, kx_pI, kx_pL, kx_pR, kx_pA, kx_pV, kx_s1, kx_s2, kx_sl, kx_pre, kx_c2, kx_pl, kx_cmp, kx_oF, kx_eqN, kx_nil, kx_c1, kx_ft, kx_aI, kx_aL, kx_aR, kx_ln, Nat.reduceAdd, Option.toList, List.cons_append, List.nil_append])
      repeat' apply And.intro
      all_goals try (first | with_reducible assumption | (with_reducible refine ck_nzI ?_; simp; done) | (with_reducible refine ck_nzL ?_; simp; done) | (with_reducible refine vp_in_nI ?_ ?_ <;> first | omega | decide) | (with_reducible refine Nat.le_of_ble_eq_true ?_; rfl) | omega | (unfold vp_in; decide))
      · intro zc1863
        refine hB bL_law__1868 _ _ _ _ _ _ _ kL_law__1868 ?_
        dsimp only [bL_law__1868, kx_wp, kx_step, kx_lI, kx_lL, kx_lA, kx_gl, kx_pI, kx_pL, kx_pR, kx_pA, kx_pV, kx_s1, kx_s2, kx_sl, kx_pre, kx_c2, kx_pl, kx_cmp, kx_oF, kx_eqN, kx_nil, kx_c1, kx_ft, kx_aI, kx_aL, kx_aR, kx_ln, Nat.reduceAdd, Option.toList, List.cons_append, List.nil_append]
        repeat (simp only [e1x, c1x, e2x, c2x, e3x, c3x, e4x, c4x, e5x, c5x, h143b, hc0]; try dsimp only [kx_wp, kx_step, kx_lI, kx_lL, kx_lA, kx_gl, kx_pI, kx_pL, kx_pR, kx_pA, kx_pV, kx_s1, kx_s2, kx_sl, kx_pre, kx_c2, kx_pl, kx_cmp, kx_oF, kx_eqN, kx_nil, kx_c1, kx_ft, kx_aI, kx_aL, kx_aR, kx_ln, Nat.reduceAdd, Option.toList, List.cons_append, List.nil_append])
        repeat' apply And.intro
        all_goals try (first | with_reducible assumption | (with_reducible refine ck_nzI ?_; simp; done) | (with_reducible refine ck_nzL ?_; simp; done) | (with_reducible refine vp_in_nI ?_ ?_ <;> first | omega | decide) | (with_reducible refine Nat.le_of_ble_eq_true ?_; rfl) | omega | (unfold vp_in; decide))
        exact hgo P3 s2 S2 cl1 mi1 se1 bl1 go2 _ _ _ _ _ hI h34 h143b (by omega) (by omega) (by omega)
      · intro zc1863
        first | exact absurd rfl zc1863 | exact absurd zc1863 (by decide) | exact absurd (by decide) zc1863 | (exfalso; first | exact zc1863 (by rw [hgo0 (Decidable.not_not.mp zc1853)]; exact lg_cmp_s _)) | (exfalso; simp_all; done)
  · intro zc1846
    first | exact absurd rfl zc1846 | exact absurd zc1846 (by decide) | exact absurd (by decide) zc1846 | (exfalso; first | exact zc1863 (by rw [hgo0 (Decidable.not_not.mp zc1853)]; exact lg_cmp_s _)) | (exfalso; simp_all; done)

set_option maxRecDepth 100000 in
set_option maxHeartbeats 4000000 in
theorem cj_reckoned (l : Launch) (G : kx_G) (hst : l.stackTraces = false) {P : kx_P} {sz : Nat} {M : Nat → Int32} {A : Nat → Nat → Int32} {L : Nat → Nat → Int64} {cl mi se : Nat} {bl : Nat → Nat} {go : Nat → Int64} {Ln i k n : Nat} {xs : Nat → Int32} {o5 o6 o7 : Option Value} {g : kx_F} (h : cI P sz (M, A, L) cl mi se bl) (h3 : P 3 = kI 5 Ln xs) (h143 : P 143 = kL 1 go) (hi : i + 6 ≤ Ln) (hL : Ln ≤ 3072) (hk : k + 8 ≤ 601024) (hn : n + cro bl + 2206 ≤ 7293033) (hse : se ≤ 999) (hB : kx_rB kxL_L false cL_law_ 601024 7293033 (fun r _ _ => r = some (.int 1)) g) (hN : kx_rN l G RL cL_law_ 60 601024 7293033 g) (hW : kx_rW l G RL cL_law_ 60 601024 7293033 g) (hgo : cAf g Ln xs i se k n bl) : g 1871 [some (.ref 3), some (.ref 64), some (.ref 93), some (.ref 143), some (.int (nI i)), o5, o6, o7] [] P sz k n := by
  have e1x : nI i + 1 = nI (i + 1) := by rw [show (1 : Int32) = nI 1 from rfl, nI_add]
  have c1x : (nI (i + 1)).toNatClampNeg = i + 1 := nI_clamp (by omega)
  have e2x : nI i + 2 = nI (i + 2) := by rw [show (2 : Int32) = nI 2 from rfl, nI_add]
  have c2x : (nI (i + 2)).toNatClampNeg = i + 2 := nI_clamp (by omega)
  have e3x : nI i + 3 = nI (i + 3) := by rw [show (3 : Int32) = nI 3 from rfl, nI_add]
  have c3x : (nI (i + 3)).toNatClampNeg = i + 3 := nI_clamp (by omega)
  have e4x : nI i + 4 = nI (i + 4) := by rw [show (4 : Int32) = nI 4 from rfl, nI_add]
  have c4x : (nI (i + 4)).toNatClampNeg = i + 4 := nI_clamp (by omega)
  have e5x : nI i + 5 = nI (i + 5) := by rw [show (5 : Int32) = nI 5 from rfl, nI_add]
  have c5x : (nI (i + 5)).toNatClampNeg = i + 5 := nI_clamp (by omega)
  have hc0 : (0 : Int32).toNatClampNeg = 0 := rfl
  obtain ⟨f64, h64⟩ := cI_k64 h
  have hs := cs_reckoned l G hst h (xs (i + 1)) (xs (i + 2)) (xs (i + 3))
  obtain ⟨k9, dw, dm, mc, ms, cl1, mi1, se1, bl1, Q, q1, q2, q3, q4, q5, hw, hmo⟩ := cSs.s (yw := sL_reckoned) (hh := hL_reckoned) (Aw := [.ref 64, .int (xs (i + 1)), .int (xs (i + 2)), .int (xs (i + 3)), .ref 143]) h h143 hs (fun d mc ms Po => cw_reckoned_t l G h64) (fun p hp => by
    simp only [List.mem_cons, List.not_mem_nil, or_false] at hp
    rcases hp with rfl | rfl
    · exact ⟨by decide, fun d => cw_reckoned_x0 l G h64⟩
    · exact ⟨by decide, fun d => cw_reckoned_x1 l G h64⟩)
  refine hB bL_law__1871 _ _ _ _ _ _ _ kL_law__1871 ?_
  dsimp only [bL_law__1871, kx_wp, kx_step, kx_lI, kx_lL, kx_lA, kx_gl, kx_pI, kx_pL, kx_pR, kx_pA, kx_pV, kx_s1, kx_s2, kx_sl, kx_pre, kx_c2, kx_pl, kx_cmp, kx_oF, kx_eqN, kx_nil, kx_c1, kx_ft, kx_aI, kx_aL, kx_aR, kx_ln, Nat.reduceAdd, Option.toList, List.cons_append, List.nil_append]
  repeat (simp only [e1x, c1x, e2x, c2x, e3x, c3x, e4x, c4x, e5x, c5x, h3]; try dsimp only [kx_wp, kx_step, kx_lI, kx_lL, kx_lA, kx_gl, kx_pI, kx_pL, kx_pR, kx_pA, kx_pV, kx_s1, kx_s2, kx_sl, kx_pre, kx_c2, kx_pl, kx_cmp, kx_oF, kx_eqN, kx_nil, kx_c1, kx_ft, kx_aI, kx_aL, kx_aR, kx_ln, Nat.reduceAdd, Option.toList, List.cons_append, List.nil_append])
  repeat' apply And.intro
  all_goals try (first | with_reducible assumption | (with_reducible refine ck_nzI ?_; simp; done) | (with_reducible refine ck_nzL ?_; simp; done) | (with_reducible refine vp_in_nI ?_ ?_ <;> first | omega | decide) | (with_reducible refine Nat.le_of_ble_eq_true ?_; rfl) | omega | (unfold vp_in; decide))
  refine hW 206 _ _ _ _ _ _ _ _ _ _ _ _ _ _ _ _ lL_206 hw rfl rfl (Nat.le_of_ble_eq_true rfl) (by omega) (by decide) (by omega) (by omega) dL_law__1891 ?_
  rintro r2 P2 s2 ⟨e2, hQ⟩
  rw [e2]
  obtain ⟨⟨fm, h93⟩, h33, hM⟩ := hmo P2 s2 hQ
  have h33 := h33.trans h3
  dsimp only [Option.toList, List.cons_append, List.nil_append]
  refine hB bL_law__1894 _ _ _ _ _ _ _ kL_law__1894 ?_
  dsimp only [bL_law__1894, kx_wp, kx_step, kx_lI, kx_lL, kx_lA, kx_gl, kx_pI, kx_pL, kx_pR, kx_pA, kx_pV, kx_s1, kx_s2, kx_sl, kx_pre, kx_c2, kx_pl, kx_cmp, kx_oF, kx_eqN, kx_nil, kx_c1, kx_ft, kx_aI, kx_aL, kx_aR, kx_ln, Nat.reduceAdd, Option.toList, List.cons_append, List.nil_append]
  repeat (simp only [e1x, c1x, e2x, c2x, e3x, c3x, e4x, c4x, e5x, c5x, h33]; try dsimp only [kx_wp, kx_step, kx_lI, kx_lL, kx_lA, kx_gl, kx_pI, kx_pL, kx_pR, kx_pA, kx_pV, kx_s1, kx_s2, kx_sl, kx_pre, kx_c2, kx_pl, kx_cmp, kx_oF, kx_eqN, kx_nil, kx_c1, kx_ft, kx_aI, kx_aL, kx_aR, kx_ln, Nat.reduceAdd, Option.toList, List.cons_append, List.nil_append])
  repeat' apply And.intro
  all_goals try (first | with_reducible assumption | (with_reducible refine ck_nzI ?_; simp; done) | (with_reducible refine ck_nzL ?_; simp; done) | (with_reducible refine vp_in_nI ?_ ?_ <;> first | omega | decide) | (with_reducible refine Nat.le_of_ble_eq_true ?_; rfl) | omega | (unfold vp_in; decide))
  refine hN.1 208 _ _ _ _ _ _ _ 11 _ _ _ _ _ _ _ _ _ _ lL_208 hM ⟨by decide, rfl⟩ h93 rfl rfl (Nat.le_of_ble_eq_true rfl) (by omega) (by decide) (by omega) (by omega) dL_law__1915 ?_
  rintro r3 P3 s3 ⟨e3, v, S2, go2, e4, hT, hk0, hI, h34, h143b, hgo0⟩
  obtain ⟨b9, e5⟩ := hT.1 rfl
  subst e5
  rw [e3, e4]
  have h34 := h34.trans h3
  have h93b := cI_93 hI
  have hth := cI_th l G hI
  rw [hk0] at hth
  dsimp only [Option.toList, List.cons_append, List.nil_append]
  refine hB bL_law__1918 _ _ _ _ _ _ _ kL_law__1918 ?_
  dsimp only [bL_law__1918, kx_wp, kx_step, kx_lI, kx_lL, kx_lA, kx_gl, kx_pI, kx_pL, kx_pR, kx_pA, kx_pV, kx_s1, kx_s2, kx_sl, kx_pre, kx_c2, kx_pl, kx_cmp, kx_oF, kx_eqN, kx_nil, kx_c1, kx_ft, kx_aI, kx_aL, kx_aR, kx_ln, Nat.reduceAdd, Option.toList, List.cons_append, List.nil_append]
  repeat (simp only [e1x, c1x, e2x, c2x, e3x, c3x, e4x, c4x, e5x, c5x, h143b, hc0]; try dsimp only [kx_wp, kx_step, kx_lI, kx_lL, kx_lA, kx_gl, kx_pI, kx_pL, kx_pR, kx_pA, kx_pV, kx_s1, kx_s2, kx_sl, kx_pre, kx_c2, kx_pl, kx_cmp, kx_oF, kx_eqN, kx_nil, kx_c1, kx_ft, kx_aI, kx_aL, kx_aR, kx_ln, Nat.reduceAdd, Option.toList, List.cons_append, List.nil_append])
  repeat' apply And.intro
  all_goals try (first | with_reducible assumption | (with_reducible refine ck_nzI ?_; simp; done) | (with_reducible refine ck_nzL ?_; simp; done) | (with_reducible refine vp_in_nI ?_ ?_ <;> first | omega | decide) | (with_reducible refine Nat.le_of_ble_eq_true ?_; rfl) | omega | (unfold vp_in; decide))
  refine hN.1 120 _ _ _ _ _ _ _ 11 _ _ _ _ _ _ _ _ _ _ lL_120 hth.n ⟨by decide, rfl⟩ h93b rfl rfl (Nat.le_of_ble_eq_true rfl) (by omega) (by decide) (by omega) (by omega) dL_law__1921 ?_
  rintro r4 P4 s4 ⟨e6, e7, e8⟩
  rw [e6, e7, e8]
  dsimp only [Option.toList, List.cons_append, List.nil_append]
  refine hB bL_law__1924 _ _ _ _ _ _ _ kL_law__1924 ?_
  dsimp only [bL_law__1924, kx_wp, kx_step, kx_lI, kx_lL, kx_lA, kx_gl, kx_pI, kx_pL, kx_pR, kx_pA, kx_pV, kx_s1, kx_s2, kx_sl, kx_pre, kx_c2, kx_pl, kx_cmp, kx_oF, kx_eqN, kx_nil, kx_c1, kx_ft, kx_aI, kx_aL, kx_aR, kx_ln, Nat.reduceAdd, Option.toList, List.cons_append, List.nil_append]
  repeat (simp only [e1x, c1x, e2x, c2x, e3x, c3x, e4x, c4x, e5x, c5x, h143b, hc0]; try dsimp only [kx_wp, kx_step, kx_lI, kx_lL, kx_lA, kx_gl, kx_pI, kx_pL, kx_pR, kx_pA, kx_pV, kx_s1, kx_s2, kx_sl, kx_pre, kx_c2, kx_pl, kx_cmp, kx_oF, kx_eqN, kx_nil, kx_c1, kx_ft, kx_aI, kx_aL, kx_aR, kx_ln, Nat.reduceAdd, Option.toList, List.cons_append, List.nil_append])
  repeat' apply And.intro
  all_goals try (first | with_reducible assumption | (with_reducible refine ck_nzI ?_; simp; done) | (with_reducible refine ck_nzL ?_; simp; done) | (with_reducible refine vp_in_nI ?_ ?_ <;> first | omega | decide) | (with_reducible refine Nat.le_of_ble_eq_true ?_; rfl) | omega | (unfold vp_in; decide))
  · intro zc1926
    refine hB bL_law__1931 _ _ _ _ _ _ _ kL_law__1931 ?_
    dsimp only [bL_law__1931, kx_wp, kx_step, kx_lI, kx_lL, kx_lA, kx_gl, kx_pI, kx_pL, kx_pR, kx_pA, kx_pV, kx_s1, kx_s2, kx_sl, kx_pre, kx_c2, kx_pl, kx_cmp, kx_oF, kx_eqN, kx_nil, kx_c1, kx_ft, kx_aI, kx_aL, kx_aR, kx_ln, Nat.reduceAdd, Option.toList, List.cons_append, List.nil_append]
    repeat (simp only [e1x, c1x, e2x, c2x, e3x, c3x, e4x, c4x, e5x, c5x, h143b, hc0]; try dsimp only [kx_wp, kx_step, kx_lI, kx_lL, kx_lA, kx_gl, kx_pI, kx_pL, kx_pR, kx_pA, kx_pV, kx_s1, kx_s2, kx_sl, kx_pre, kx_c2, kx_pl, kx_cmp, kx_oF, kx_eqN, kx_nil, kx_c1, kx_ft, kx_aI, kx_aL, kx_aR, kx_ln, Nat.reduceAdd, Option.toList, List.cons_append, List.nil_append])
    repeat' apply And.intro
    all_goals try (first | with_reducible assumption | (with_reducible refine ck_nzI ?_; simp; done) | (with_reducible refine ck_nzL ?_; simp; done) | (with_reducible refine vp_in_nI ?_ ?_ <;> first | omega | decide) | (with_reducible refine Nat.le_of_ble_eq_true ?_; rfl) | omega | (unfold vp_in; decide))
    · intro zc1933
      refine hB bL_law__1947 _ _ _ _ _ _ _ kL_law__1947 ?_
      dsimp only [bL_law__1947, kx_wp, kx_step, kx_lI, kx_lL, kx_lA, kx_gl, kx_pI, kx_pL, kx_pR, kx_pA, kx_pV, kx_s1, kx_s2, kx_sl, kx_pre, kx_c2, kx_pl, kx_cmp, kx_oF, kx_eqN, kx_nil, kx_c1, kx_ft, kx_aI, kx_aL, kx_aR, kx_ln, Nat.reduceAdd, Option.toList, List.cons_append, List.nil_append]
      repeat (simp only [e1x, c1x, e2x, c2x, e3x, c3x, e4x, c4x, e5x, c5x, h143b, hc0]; try dsimp only [kx_wp, kx_step, kx_lI, kx_lL, kx_lA, kx_gl, kx_pI, kx_pL, kx_pR, kx_pA, kx_pV, kx_s1, kx_s2, kx_sl, kx_pre, kx_c2, kx_pl, kx_cmp, kx_oF, kx_eqN, kx_nil, kx_c1, kx_ft, kx_aI, kx_aL, kx_aR, kx_ln, Nat.reduceAdd, Option.toList, List.cons_append, List.nil_append])
      repeat' apply And.intro
      all_goals try (first | with_reducible assumption | (with_reducible refine ck_nzI ?_; simp; done) | (with_reducible refine ck_nzL ?_; simp; done) | (with_reducible refine vp_in_nI ?_ ?_ <;> first | omega | decide) | (with_reducible refine Nat.le_of_ble_eq_true ?_; rfl) | omega | (unfold vp_in; decide))
      exact hgo P3 s2 S2 cl1 mi1 se1 bl1 go2 _ _ _ _ _ hI h34 h143b (by omega) (by omega) (by omega)
    · intro zc1933
      refine hB bL_law__1936 _ _ _ _ _ _ _ kL_law__1936 ?_
      dsimp only [bL_law__1936, kx_wp, kx_step, kx_lI, kx_lL, kx_lA, kx_gl, kx_pI, kx_pL, kx_pR, kx_pA, kx_pV, kx_s1, kx_s2, kx_sl, kx_pre, kx_c2, kx_pl, kx_cmp, kx_oF, kx_eqN, kx_nil, kx_c1, kx_ft, kx_aI, kx_aL, kx_aR, kx_ln, Nat.reduceAdd, Option.toList, List.cons_append, List.nil_append]
      repeat (simp only [e1x, c1x, e2x, c2x, e3x, c3x, e4x, c4x, e5x, c5x, h143b, hc0]; try dsimp only [kx_wp, kx_step, kx_lI, kx_lL, kx_lA, kx_gl, kx_pI, kx_pL, kx_pR, kx_pA, kx_pV, kx_s1, kx_s2, kx_sl, kx_pre, kx_c2, kx_pl, kx_cmp, kx_oF, kx_eqN, kx_nil, kx_c1, kx_ft, kx_aI, kx_aL, kx_aR, kx_ln, Nat.reduceAdd, Option.toList, List.cons_append, List.nil_append])
      repeat' apply And.intro
      all_goals try (first | with_reducible assumption | (with_reducible refine ck_nzI ?_; simp; done) | (with_reducible refine ck_nzL ?_; simp; done) | (with_reducible refine vp_in_nI ?_ ?_ <;> first | omega | decide) | (with_reducible refine Nat.le_of_ble_eq_true ?_; rfl) | omega | (unfold vp_in; decide))
      · intro zc1942
        refine hB bL_law__1947 _ _ _ _ _ _ _ kL_law__1947 ?_
        dsimp only [bL_law__1947, kx_wp, kx_step, kx_lI, kx_lL, kx_lA, kx_gl, kx_pI, kx_pL, kx_pR, kx_pA, kx_pV, kx_s1, kx_s2, kx_sl, kx_pre, kx_c2, kx_pl, kx_cmp, kx_oF, kx_eqN, kx_nil, kx_c1, kx_ft, kx_aI, kx_aL, kx_aR, kx_ln, Nat.reduceAdd, Option.toList, List.cons_append, List.nil_append]
        repeat (simp only [e1x, c1x, e2x, c2x, e3x, c3x, e4x, c4x, e5x, c5x, h143b, hc0]; try dsimp only [kx_wp, kx_step, kx_lI, kx_lL, kx_lA, kx_gl, kx_pI, kx_pL, kx_pR, kx_pA, kx_pV, kx_s1, kx_s2, kx_sl, kx_pre, kx_c2, kx_pl, kx_cmp, kx_oF, kx_eqN, kx_nil, kx_c1, kx_ft, kx_aI, kx_aL, kx_aR, kx_ln, Nat.reduceAdd, Option.toList, List.cons_append, List.nil_append])
        repeat' apply And.intro
        all_goals try (first | with_reducible assumption | (with_reducible refine ck_nzI ?_; simp; done) | (with_reducible refine ck_nzL ?_; simp; done) | (with_reducible refine vp_in_nI ?_ ?_ <;> first | omega | decide) | (with_reducible refine Nat.le_of_ble_eq_true ?_; rfl) | omega | (unfold vp_in; decide))
        exact hgo P3 s2 S2 cl1 mi1 se1 bl1 go2 _ _ _ _ _ hI h34 h143b (by omega) (by omega) (by omega)
      · intro zc1942
        first | exact absurd rfl zc1942 | exact absurd zc1942 (by decide) | exact absurd (by decide) zc1942 | (exfalso; first | exact zc1942 (by rw [hgo0 (Decidable.not_not.mp zc1933)]; exact lg_cmp_s _)) | (exfalso; simp_all; done)
  · intro zc1926
    first | exact absurd rfl zc1926 | exact absurd zc1926 (by decide) | exact absurd (by decide) zc1926 | (exfalso; first | exact zc1942 (by rw [hgo0 (Decidable.not_not.mp zc1933)]; exact lg_cmp_s _)) | (exfalso; simp_all; done)

set_option maxRecDepth 100000 in
set_option maxHeartbeats 4000000 in
theorem cj_speed (l : Launch) (G : kx_G) (hst : l.stackTraces = false) {P : kx_P} {sz : Nat} {M : Nat → Int32} {A : Nat → Nat → Int32} {L : Nat → Nat → Int64} {cl mi se : Nat} {bl : Nat → Nat} {go : Nat → Int64} {Ln i k n : Nat} {xs : Nat → Int32} {o5 o6 o7 : Option Value} {g : kx_F} (h : cI P sz (M, A, L) cl mi se bl) (h3 : P 3 = kI 5 Ln xs) (h143 : P 143 = kL 1 go) (hi : i + 6 ≤ Ln) (hL : Ln ≤ 3072) (hk : k + 8 ≤ 601024) (hn : n + cro bl + 2206 ≤ 7293033) (hse : se ≤ 999) (hB : kx_rB kxL_L false cL_law_ 601024 7293033 (fun r _ _ => r = some (.int 1)) g) (hN : kx_rN l G RL cL_law_ 60 601024 7293033 g) (hW : kx_rW l G RL cL_law_ 60 601024 7293033 g) (hgo : cAf g Ln xs i se k n bl) : g 1950 [some (.ref 3), some (.ref 64), some (.ref 93), some (.ref 143), some (.int (nI i)), o5, o6, o7] [] P sz k n := by
  have e1x : nI i + 1 = nI (i + 1) := by rw [show (1 : Int32) = nI 1 from rfl, nI_add]
  have c1x : (nI (i + 1)).toNatClampNeg = i + 1 := nI_clamp (by omega)
  have e2x : nI i + 2 = nI (i + 2) := by rw [show (2 : Int32) = nI 2 from rfl, nI_add]
  have c2x : (nI (i + 2)).toNatClampNeg = i + 2 := nI_clamp (by omega)
  have e3x : nI i + 3 = nI (i + 3) := by rw [show (3 : Int32) = nI 3 from rfl, nI_add]
  have c3x : (nI (i + 3)).toNatClampNeg = i + 3 := nI_clamp (by omega)
  have e4x : nI i + 4 = nI (i + 4) := by rw [show (4 : Int32) = nI 4 from rfl, nI_add]
  have c4x : (nI (i + 4)).toNatClampNeg = i + 4 := nI_clamp (by omega)
  have e5x : nI i + 5 = nI (i + 5) := by rw [show (5 : Int32) = nI 5 from rfl, nI_add]
  have c5x : (nI (i + 5)).toNatClampNeg = i + 5 := nI_clamp (by omega)
  have hc0 : (0 : Int32).toNatClampNeg = 0 := rfl
  obtain ⟨f64, h64⟩ := cI_k64 h
  have hs := cs_speed l G hst h (xs (i + 1)) (xs (i + 2))
  obtain ⟨k9, dw, dm, mc, ms, cl1, mi1, se1, bl1, Q, q1, q2, q3, q4, q5, hw, hmo⟩ := cSs.s (yw := sL_speed) (hh := hL_speed) (Aw := [.ref 64, .int (xs (i + 1)), .int (xs (i + 2)), .ref 143]) h h143 hs (fun d mc ms Po => cw_speed_t l G h64) (fun p hp => by
    simp only [List.mem_cons, List.not_mem_nil, or_false] at hp
    rcases hp with rfl
    · exact ⟨by decide, fun d => cw_speed_x0 l G h64⟩)
  refine hB bL_law__1950 _ _ _ _ _ _ _ kL_law__1950 ?_
  dsimp only [bL_law__1950, kx_wp, kx_step, kx_lI, kx_lL, kx_lA, kx_gl, kx_pI, kx_pL, kx_pR, kx_pA, kx_pV, kx_s1, kx_s2, kx_sl, kx_pre, kx_c2, kx_pl, kx_cmp, kx_oF, kx_eqN, kx_nil, kx_c1, kx_ft, kx_aI, kx_aL, kx_aR, kx_ln, Nat.reduceAdd, Option.toList, List.cons_append, List.nil_append]
  repeat (simp only [e1x, c1x, e2x, c2x, e3x, c3x, e4x, c4x, e5x, c5x, h3]; try dsimp only [kx_wp, kx_step, kx_lI, kx_lL, kx_lA, kx_gl, kx_pI, kx_pL, kx_pR, kx_pA, kx_pV, kx_s1, kx_s2, kx_sl, kx_pre, kx_c2, kx_pl, kx_cmp, kx_oF, kx_eqN, kx_nil, kx_c1, kx_ft, kx_aI, kx_aL, kx_aR, kx_ln, Nat.reduceAdd, Option.toList, List.cons_append, List.nil_append])
  repeat' apply And.intro
  all_goals try (first | with_reducible assumption | (with_reducible refine ck_nzI ?_; simp; done) | (with_reducible refine ck_nzL ?_; simp; done) | (with_reducible refine vp_in_nI ?_ ?_ <;> first | omega | decide) | (with_reducible refine Nat.le_of_ble_eq_true ?_; rfl) | omega | (unfold vp_in; decide))
  refine hW 209 _ _ _ _ _ _ _ _ _ _ _ _ _ _ _ _ lL_209 hw rfl rfl (Nat.le_of_ble_eq_true rfl) (by omega) (by decide) (by omega) (by omega) dL_law__1964 ?_
  rintro r2 P2 s2 ⟨e2, hQ⟩
  rw [e2]
  obtain ⟨⟨fm, h93⟩, h33, hM⟩ := hmo P2 s2 hQ
  have h33 := h33.trans h3
  dsimp only [Option.toList, List.cons_append, List.nil_append]
  refine hB bL_law__1967 _ _ _ _ _ _ _ kL_law__1967 ?_
  dsimp only [bL_law__1967, kx_wp, kx_step, kx_lI, kx_lL, kx_lA, kx_gl, kx_pI, kx_pL, kx_pR, kx_pA, kx_pV, kx_s1, kx_s2, kx_sl, kx_pre, kx_c2, kx_pl, kx_cmp, kx_oF, kx_eqN, kx_nil, kx_c1, kx_ft, kx_aI, kx_aL, kx_aR, kx_ln, Nat.reduceAdd, Option.toList, List.cons_append, List.nil_append]
  repeat (simp only [e1x, c1x, e2x, c2x, e3x, c3x, e4x, c4x, e5x, c5x, h33]; try dsimp only [kx_wp, kx_step, kx_lI, kx_lL, kx_lA, kx_gl, kx_pI, kx_pL, kx_pR, kx_pA, kx_pV, kx_s1, kx_s2, kx_sl, kx_pre, kx_c2, kx_pl, kx_cmp, kx_oF, kx_eqN, kx_nil, kx_c1, kx_ft, kx_aI, kx_aL, kx_aR, kx_ln, Nat.reduceAdd, Option.toList, List.cons_append, List.nil_append])
  repeat' apply And.intro
  all_goals try (first | with_reducible assumption | (with_reducible refine ck_nzI ?_; simp; done) | (with_reducible refine ck_nzL ?_; simp; done) | (with_reducible refine vp_in_nI ?_ ?_ <;> first | omega | decide) | (with_reducible refine Nat.le_of_ble_eq_true ?_; rfl) | omega | (unfold vp_in; decide))
  refine hN.1 211 _ _ _ _ _ _ _ 11 _ _ _ _ _ _ _ _ _ _ lL_211 hM ⟨by decide, rfl⟩ h93 rfl rfl (Nat.le_of_ble_eq_true rfl) (by omega) (by decide) (by omega) (by omega) dL_law__1982 ?_
  rintro r3 P3 s3 ⟨e3, v, S2, go2, e4, hT, hk0, hI, h34, h143b, hgo0⟩
  obtain ⟨b9, e5⟩ := hT.1 rfl
  subst e5
  rw [e3, e4]
  have h34 := h34.trans h3
  have h93b := cI_93 hI
  have hth := cI_th l G hI
  rw [hk0] at hth
  dsimp only [Option.toList, List.cons_append, List.nil_append]
  refine hB bL_law__1985 _ _ _ _ _ _ _ kL_law__1985 ?_
  dsimp only [bL_law__1985, kx_wp, kx_step, kx_lI, kx_lL, kx_lA, kx_gl, kx_pI, kx_pL, kx_pR, kx_pA, kx_pV, kx_s1, kx_s2, kx_sl, kx_pre, kx_c2, kx_pl, kx_cmp, kx_oF, kx_eqN, kx_nil, kx_c1, kx_ft, kx_aI, kx_aL, kx_aR, kx_ln, Nat.reduceAdd, Option.toList, List.cons_append, List.nil_append]
  repeat (simp only [e1x, c1x, e2x, c2x, e3x, c3x, e4x, c4x, e5x, c5x, h143b, hc0]; try dsimp only [kx_wp, kx_step, kx_lI, kx_lL, kx_lA, kx_gl, kx_pI, kx_pL, kx_pR, kx_pA, kx_pV, kx_s1, kx_s2, kx_sl, kx_pre, kx_c2, kx_pl, kx_cmp, kx_oF, kx_eqN, kx_nil, kx_c1, kx_ft, kx_aI, kx_aL, kx_aR, kx_ln, Nat.reduceAdd, Option.toList, List.cons_append, List.nil_append])
  repeat' apply And.intro
  all_goals try (first | with_reducible assumption | (with_reducible refine ck_nzI ?_; simp; done) | (with_reducible refine ck_nzL ?_; simp; done) | (with_reducible refine vp_in_nI ?_ ?_ <;> first | omega | decide) | (with_reducible refine Nat.le_of_ble_eq_true ?_; rfl) | omega | (unfold vp_in; decide))
  refine hN.1 120 _ _ _ _ _ _ _ 11 _ _ _ _ _ _ _ _ _ _ lL_120 hth.n ⟨by decide, rfl⟩ h93b rfl rfl (Nat.le_of_ble_eq_true rfl) (by omega) (by decide) (by omega) (by omega) dL_law__1988 ?_
  rintro r4 P4 s4 ⟨e6, e7, e8⟩
  rw [e6, e7, e8]
  dsimp only [Option.toList, List.cons_append, List.nil_append]
  refine hB bL_law__1991 _ _ _ _ _ _ _ kL_law__1991 ?_
  dsimp only [bL_law__1991, kx_wp, kx_step, kx_lI, kx_lL, kx_lA, kx_gl, kx_pI, kx_pL, kx_pR, kx_pA, kx_pV, kx_s1, kx_s2, kx_sl, kx_pre, kx_c2, kx_pl, kx_cmp, kx_oF, kx_eqN, kx_nil, kx_c1, kx_ft, kx_aI, kx_aL, kx_aR, kx_ln, Nat.reduceAdd, Option.toList, List.cons_append, List.nil_append]
  repeat (simp only [e1x, c1x, e2x, c2x, e3x, c3x, e4x, c4x, e5x, c5x, h143b, hc0]; try dsimp only [kx_wp, kx_step, kx_lI, kx_lL, kx_lA, kx_gl, kx_pI, kx_pL, kx_pR, kx_pA, kx_pV, kx_s1, kx_s2, kx_sl, kx_pre, kx_c2, kx_pl, kx_cmp, kx_oF, kx_eqN, kx_nil, kx_c1, kx_ft, kx_aI, kx_aL, kx_aR, kx_ln, Nat.reduceAdd, Option.toList, List.cons_append, List.nil_append])
  repeat' apply And.intro
  all_goals try (first | with_reducible assumption | (with_reducible refine ck_nzI ?_; simp; done) | (with_reducible refine ck_nzL ?_; simp; done) | (with_reducible refine vp_in_nI ?_ ?_ <;> first | omega | decide) | (with_reducible refine Nat.le_of_ble_eq_true ?_; rfl) | omega | (unfold vp_in; decide))
  · intro zc1993
    refine hB bL_law__1998 _ _ _ _ _ _ _ kL_law__1998 ?_
    dsimp only [bL_law__1998, kx_wp, kx_step, kx_lI, kx_lL, kx_lA, kx_gl, kx_pI, kx_pL, kx_pR, kx_pA, kx_pV, kx_s1, kx_s2, kx_sl, kx_pre, kx_c2, kx_pl, kx_cmp, kx_oF, kx_eqN, kx_nil, kx_c1, kx_ft, kx_aI, kx_aL, kx_aR, kx_ln, Nat.reduceAdd, Option.toList, List.cons_append, List.nil_append]
    repeat (simp only [e1x, c1x, e2x, c2x, e3x, c3x, e4x, c4x, e5x, c5x, h143b, hc0]; try dsimp only [kx_wp, kx_step, kx_lI, kx_lL, kx_lA, kx_gl, kx_pI, kx_pL, kx_pR, kx_pA, kx_pV, kx_s1, kx_s2, kx_sl, kx_pre, kx_c2, kx_pl, kx_cmp, kx_oF, kx_eqN, kx_nil, kx_c1, kx_ft, kx_aI, kx_aL, kx_aR, kx_ln, Nat.reduceAdd, Option.toList, List.cons_append, List.nil_append])
    repeat' apply And.intro
    all_goals try (first | with_reducible assumption | (with_reducible refine ck_nzI ?_; simp; done) | (with_reducible refine ck_nzL ?_; simp; done) | (with_reducible refine vp_in_nI ?_ ?_ <;> first | omega | decide) | (with_reducible refine Nat.le_of_ble_eq_true ?_; rfl) | omega | (unfold vp_in; decide))
    · intro zc2000
      refine hB bL_law__2014 _ _ _ _ _ _ _ kL_law__2014 ?_
      dsimp only [bL_law__2014, kx_wp, kx_step, kx_lI, kx_lL, kx_lA, kx_gl, kx_pI, kx_pL, kx_pR, kx_pA, kx_pV, kx_s1, kx_s2, kx_sl, kx_pre, kx_c2, kx_pl, kx_cmp, kx_oF, kx_eqN, kx_nil, kx_c1, kx_ft, kx_aI, kx_aL, kx_aR, kx_ln, Nat.reduceAdd, Option.toList, List.cons_append, List.nil_append]
      repeat (simp only [e1x, c1x, e2x, c2x, e3x, c3x, e4x, c4x, e5x, c5x, h143b, hc0]; try dsimp only [kx_wp, kx_step, kx_lI, kx_lL, kx_lA, kx_gl, kx_pI, kx_pL, kx_pR, kx_pA, kx_pV, kx_s1, kx_s2, kx_sl, kx_pre, kx_c2, kx_pl, kx_cmp, kx_oF, kx_eqN, kx_nil, kx_c1, kx_ft, kx_aI, kx_aL, kx_aR, kx_ln, Nat.reduceAdd, Option.toList, List.cons_append, List.nil_append])
      repeat' apply And.intro
      all_goals try (first | with_reducible assumption | (with_reducible refine ck_nzI ?_; simp; done) | (with_reducible refine ck_nzL ?_; simp; done) | (with_reducible refine vp_in_nI ?_ ?_ <;> first | omega | decide) | (with_reducible refine Nat.le_of_ble_eq_true ?_; rfl) | omega | (unfold vp_in; decide))
      exact hgo P3 s2 S2 cl1 mi1 se1 bl1 go2 _ _ _ _ _ hI h34 h143b (by omega) (by omega) (by omega)
    · intro zc2000
      refine hB bL_law__2003 _ _ _ _ _ _ _ kL_law__2003 ?_
      dsimp only [bL_law__2003, kx_wp, kx_step, kx_lI, kx_lL, kx_lA, kx_gl, kx_pI, kx_pL, kx_pR, kx_pA, kx_pV, kx_s1, kx_s2, kx_sl, kx_pre, kx_c2, kx_pl, kx_cmp, kx_oF, kx_eqN, kx_nil, kx_c1, kx_ft, kx_aI, kx_aL, kx_aR, kx_ln, Nat.reduceAdd, Option.toList, List.cons_append, List.nil_append]
      repeat (simp only [e1x, c1x, e2x, c2x, e3x, c3x, e4x, c4x, e5x, c5x, h143b, hc0]; try dsimp only [kx_wp, kx_step, kx_lI, kx_lL, kx_lA, kx_gl, kx_pI, kx_pL, kx_pR, kx_pA, kx_pV, kx_s1, kx_s2, kx_sl, kx_pre, kx_c2, kx_pl, kx_cmp, kx_oF, kx_eqN, kx_nil, kx_c1, kx_ft, kx_aI, kx_aL, kx_aR, kx_ln, Nat.reduceAdd, Option.toList, List.cons_append, List.nil_append])
      repeat' apply And.intro
      all_goals try (first | with_reducible assumption | (with_reducible refine ck_nzI ?_; simp; done) | (with_reducible refine ck_nzL ?_; simp; done) | (with_reducible refine vp_in_nI ?_ ?_ <;> first | omega | decide) | (with_reducible refine Nat.le_of_ble_eq_true ?_; rfl) | omega | (unfold vp_in; decide))
      · intro zc2009
        refine hB bL_law__2014 _ _ _ _ _ _ _ kL_law__2014 ?_
        dsimp only [bL_law__2014, kx_wp, kx_step, kx_lI, kx_lL, kx_lA, kx_gl, kx_pI, kx_pL, kx_pR, kx_pA, kx_pV, kx_s1, kx_s2, kx_sl, kx_pre, kx_c2, kx_pl, kx_cmp, kx_oF, kx_eqN, kx_nil, kx_c1, kx_ft, kx_aI, kx_aL, kx_aR, kx_ln, Nat.reduceAdd, Option.toList, List.cons_append, List.nil_append]
        repeat (simp only [e1x, c1x, e2x, c2x, e3x, c3x, e4x, c4x, e5x, c5x, h143b, hc0]; try dsimp only [kx_wp, kx_step, kx_lI, kx_lL, kx_lA, kx_gl, kx_pI, kx_pL, kx_pR, kx_pA, kx_pV, kx_s1, kx_s2, kx_sl, kx_pre, kx_c2, kx_pl, kx_cmp, kx_oF, kx_eqN, kx_nil, kx_c1, kx_ft, kx_aI, kx_aL, kx_aR, kx_ln, Nat.reduceAdd, Option.toList, List.cons_append, List.nil_append])
        repeat' apply And.intro
        all_goals try (first | with_reducible assumption | (with_reducible refine ck_nzI ?_; simp; done) | (with_reducible refine ck_nzL ?_; simp; done) | (with_reducible refine vp_in_nI ?_ ?_ <;> first | omega | decide) | (with_reducible refine Nat.le_of_ble_eq_true ?_; rfl) | omega | (unfold vp_in; decide))
        exact hgo P3 s2 S2 cl1 mi1 se1 bl1 go2 _ _ _ _ _ hI h34 h143b (by omega) (by omega) (by omega)
      · intro zc2009
        first | exact absurd rfl zc2009 | exact absurd zc2009 (by decide) | exact absurd (by decide) zc2009 | (exfalso; first | exact zc2009 (by rw [hgo0 (Decidable.not_not.mp zc2000)]; exact lg_cmp_s _)) | (exfalso; simp_all; done)
  · intro zc1993
    first | exact absurd rfl zc1993 | exact absurd zc1993 (by decide) | exact absurd (by decide) zc1993 | (exfalso; first | exact zc2009 (by rw [hgo0 (Decidable.not_not.mp zc2000)]; exact lg_cmp_s _)) | (exfalso; simp_all; done)

set_option maxRecDepth 100000 in
set_option maxHeartbeats 4000000 in
theorem cj_regulated (l : Launch) (G : kx_G) (hst : l.stackTraces = false) {P : kx_P} {sz : Nat} {M : Nat → Int32} {A : Nat → Nat → Int32} {L : Nat → Nat → Int64} {cl mi se : Nat} {bl : Nat → Nat} {go : Nat → Int64} {Ln i k n : Nat} {xs : Nat → Int32} {o5 o6 o7 : Option Value} {g : kx_F} (h : cI P sz (M, A, L) cl mi se bl) (h3 : P 3 = kI 5 Ln xs) (h143 : P 143 = kL 1 go) (hi : i + 6 ≤ Ln) (hL : Ln ≤ 3072) (hk : k + 8 ≤ 601024) (hn : n + cro bl + 2206 ≤ 7293033) (hse : se ≤ 999) (hB : kx_rB kxL_L false cL_law_ 601024 7293033 (fun r _ _ => r = some (.int 1)) g) (hN : kx_rN l G RL cL_law_ 60 601024 7293033 g) (hW : kx_rW l G RL cL_law_ 60 601024 7293033 g) (hgo : cAf g Ln xs i se k n bl) : g 2017 [some (.ref 3), some (.ref 64), some (.ref 93), some (.ref 143), some (.int (nI i)), o5, o6, o7] [] P sz k n := by
  have e1x : nI i + 1 = nI (i + 1) := by rw [show (1 : Int32) = nI 1 from rfl, nI_add]
  have c1x : (nI (i + 1)).toNatClampNeg = i + 1 := nI_clamp (by omega)
  have e2x : nI i + 2 = nI (i + 2) := by rw [show (2 : Int32) = nI 2 from rfl, nI_add]
  have c2x : (nI (i + 2)).toNatClampNeg = i + 2 := nI_clamp (by omega)
  have e3x : nI i + 3 = nI (i + 3) := by rw [show (3 : Int32) = nI 3 from rfl, nI_add]
  have c3x : (nI (i + 3)).toNatClampNeg = i + 3 := nI_clamp (by omega)
  have e4x : nI i + 4 = nI (i + 4) := by rw [show (4 : Int32) = nI 4 from rfl, nI_add]
  have c4x : (nI (i + 4)).toNatClampNeg = i + 4 := nI_clamp (by omega)
  have e5x : nI i + 5 = nI (i + 5) := by rw [show (5 : Int32) = nI 5 from rfl, nI_add]
  have c5x : (nI (i + 5)).toNatClampNeg = i + 5 := nI_clamp (by omega)
  have hc0 : (0 : Int32).toNatClampNeg = 0 := rfl
  obtain ⟨f64, h64⟩ := cI_k64 h
  have hs := cs_regulated l G hst h (xs (i + 1)) (xs (i + 2))
  obtain ⟨k9, dw, dm, mc, ms, cl1, mi1, se1, bl1, Q, q1, q2, q3, q4, q5, hw, hmo⟩ := cSs.s (yw := sL_regulated) (hh := hL_regulated) (Aw := [.ref 64, .int (xs (i + 1)), .int (xs (i + 2)), .ref 143]) h h143 hs (fun d mc ms Po => cw_regulated_t l G h64) (fun p hp => by
    simp only [List.mem_cons, List.not_mem_nil, or_false] at hp
    rcases hp with rfl
    · exact ⟨by decide, fun d => cw_regulated_x0 l G h64⟩)
  refine hB bL_law__2017 _ _ _ _ _ _ _ kL_law__2017 ?_
  dsimp only [bL_law__2017, kx_wp, kx_step, kx_lI, kx_lL, kx_lA, kx_gl, kx_pI, kx_pL, kx_pR, kx_pA, kx_pV, kx_s1, kx_s2, kx_sl, kx_pre, kx_c2, kx_pl, kx_cmp, kx_oF, kx_eqN, kx_nil, kx_c1, kx_ft, kx_aI, kx_aL, kx_aR, kx_ln, Nat.reduceAdd, Option.toList, List.cons_append, List.nil_append]
  repeat (simp only [e1x, c1x, e2x, c2x, e3x, c3x, e4x, c4x, e5x, c5x, h3]; try dsimp only [kx_wp, kx_step, kx_lI, kx_lL, kx_lA, kx_gl, kx_pI, kx_pL, kx_pR, kx_pA, kx_pV, kx_s1, kx_s2, kx_sl, kx_pre, kx_c2, kx_pl, kx_cmp, kx_oF, kx_eqN, kx_nil, kx_c1, kx_ft, kx_aI, kx_aL, kx_aR, kx_ln, Nat.reduceAdd, Option.toList, List.cons_append, List.nil_append])
  repeat' apply And.intro
  all_goals try (first | with_reducible assumption | (with_reducible refine ck_nzI ?_; simp; done) | (with_reducible refine ck_nzL ?_; simp; done) | (with_reducible refine vp_in_nI ?_ ?_ <;> first | omega | decide) | (with_reducible refine Nat.le_of_ble_eq_true ?_; rfl) | omega | (unfold vp_in; decide))
  refine hW 212 _ _ _ _ _ _ _ _ _ _ _ _ _ _ _ _ lL_212 hw rfl rfl (Nat.le_of_ble_eq_true rfl) (by omega) (by decide) (by omega) (by omega) dL_law__2031 ?_
  rintro r2 P2 s2 ⟨e2, hQ⟩
  rw [e2]
  obtain ⟨⟨fm, h93⟩, h33, hM⟩ := hmo P2 s2 hQ
  have h33 := h33.trans h3
  dsimp only [Option.toList, List.cons_append, List.nil_append]
  refine hB bL_law__2034 _ _ _ _ _ _ _ kL_law__2034 ?_
  dsimp only [bL_law__2034, kx_wp, kx_step, kx_lI, kx_lL, kx_lA, kx_gl, kx_pI, kx_pL, kx_pR, kx_pA, kx_pV, kx_s1, kx_s2, kx_sl, kx_pre, kx_c2, kx_pl, kx_cmp, kx_oF, kx_eqN, kx_nil, kx_c1, kx_ft, kx_aI, kx_aL, kx_aR, kx_ln, Nat.reduceAdd, Option.toList, List.cons_append, List.nil_append]
  repeat (simp only [e1x, c1x, e2x, c2x, e3x, c3x, e4x, c4x, e5x, c5x, h33]; try dsimp only [kx_wp, kx_step, kx_lI, kx_lL, kx_lA, kx_gl, kx_pI, kx_pL, kx_pR, kx_pA, kx_pV, kx_s1, kx_s2, kx_sl, kx_pre, kx_c2, kx_pl, kx_cmp, kx_oF, kx_eqN, kx_nil, kx_c1, kx_ft, kx_aI, kx_aL, kx_aR, kx_ln, Nat.reduceAdd, Option.toList, List.cons_append, List.nil_append])
  repeat' apply And.intro
  all_goals try (first | with_reducible assumption | (with_reducible refine ck_nzI ?_; simp; done) | (with_reducible refine ck_nzL ?_; simp; done) | (with_reducible refine vp_in_nI ?_ ?_ <;> first | omega | decide) | (with_reducible refine Nat.le_of_ble_eq_true ?_; rfl) | omega | (unfold vp_in; decide))
  refine hN.1 214 _ _ _ _ _ _ _ 11 _ _ _ _ _ _ _ _ _ _ lL_214 hM ⟨by decide, rfl⟩ h93 rfl rfl (Nat.le_of_ble_eq_true rfl) (by omega) (by decide) (by omega) (by omega) dL_law__2049 ?_
  rintro r3 P3 s3 ⟨e3, v, S2, go2, e4, hT, hk0, hI, h34, h143b, hgo0⟩
  obtain ⟨b9, e5⟩ := hT.2 (by decide)
  subst e5
  rw [e3, e4]
  have h34 := h34.trans h3
  have h93b := cI_93 hI
  have hth := cI_th l G hI
  rw [hk0] at hth
  dsimp only [Option.toList, List.cons_append, List.nil_append]
  refine hB bL_law__2052 _ _ _ _ _ _ _ kL_law__2052 ?_
  dsimp only [bL_law__2052, kx_wp, kx_step, kx_lI, kx_lL, kx_lA, kx_gl, kx_pI, kx_pL, kx_pR, kx_pA, kx_pV, kx_s1, kx_s2, kx_sl, kx_pre, kx_c2, kx_pl, kx_cmp, kx_oF, kx_eqN, kx_nil, kx_c1, kx_ft, kx_aI, kx_aL, kx_aR, kx_ln, Nat.reduceAdd, Option.toList, List.cons_append, List.nil_append]
  repeat (simp only [e1x, c1x, e2x, c2x, e3x, c3x, e4x, c4x, e5x, c5x, h143b, hc0]; try dsimp only [kx_wp, kx_step, kx_lI, kx_lL, kx_lA, kx_gl, kx_pI, kx_pL, kx_pR, kx_pA, kx_pV, kx_s1, kx_s2, kx_sl, kx_pre, kx_c2, kx_pl, kx_cmp, kx_oF, kx_eqN, kx_nil, kx_c1, kx_ft, kx_aI, kx_aL, kx_aR, kx_ln, Nat.reduceAdd, Option.toList, List.cons_append, List.nil_append])
  repeat' apply And.intro
  all_goals try (first | with_reducible assumption | (with_reducible refine ck_nzI ?_; simp; done) | (with_reducible refine ck_nzL ?_; simp; done) | (with_reducible refine vp_in_nI ?_ ?_ <;> first | omega | decide) | (with_reducible refine Nat.le_of_ble_eq_true ?_; rfl) | omega | (unfold vp_in; decide))
  refine hN.1 120 _ _ _ _ _ _ _ 11 _ _ _ _ _ _ _ _ _ _ lL_120 hth.n ⟨by decide, rfl⟩ h93b rfl rfl (Nat.le_of_ble_eq_true rfl) (by omega) (by decide) (by omega) (by omega) dL_law__2055 ?_
  rintro r4 P4 s4 ⟨e6, e7, e8⟩
  rw [e6, e7, e8]
  dsimp only [Option.toList, List.cons_append, List.nil_append]
  refine hB bL_law__2058 _ _ _ _ _ _ _ kL_law__2058 ?_
  dsimp only [bL_law__2058, kx_wp, kx_step, kx_lI, kx_lL, kx_lA, kx_gl, kx_pI, kx_pL, kx_pR, kx_pA, kx_pV, kx_s1, kx_s2, kx_sl, kx_pre, kx_c2, kx_pl, kx_cmp, kx_oF, kx_eqN, kx_nil, kx_c1, kx_ft, kx_aI, kx_aL, kx_aR, kx_ln, Nat.reduceAdd, Option.toList, List.cons_append, List.nil_append]
  repeat (simp only [e1x, c1x, e2x, c2x, e3x, c3x, e4x, c4x, e5x, c5x, h143b, hc0]; try dsimp only [kx_wp, kx_step, kx_lI, kx_lL, kx_lA, kx_gl, kx_pI, kx_pL, kx_pR, kx_pA, kx_pV, kx_s1, kx_s2, kx_sl, kx_pre, kx_c2, kx_pl, kx_cmp, kx_oF, kx_eqN, kx_nil, kx_c1, kx_ft, kx_aI, kx_aL, kx_aR, kx_ln, Nat.reduceAdd, Option.toList, List.cons_append, List.nil_append])
  repeat' apply And.intro
  all_goals try (first | with_reducible assumption | (with_reducible refine ck_nzI ?_; simp; done) | (with_reducible refine ck_nzL ?_; simp; done) | (with_reducible refine vp_in_nI ?_ ?_ <;> first | omega | decide) | (with_reducible refine Nat.le_of_ble_eq_true ?_; rfl) | omega | (unfold vp_in; decide))
  · intro zc2060
    refine hB bL_law__2065 _ _ _ _ _ _ _ kL_law__2065 ?_
    dsimp only [bL_law__2065, kx_wp, kx_step, kx_lI, kx_lL, kx_lA, kx_gl, kx_pI, kx_pL, kx_pR, kx_pA, kx_pV, kx_s1, kx_s2, kx_sl, kx_pre, kx_c2, kx_pl, kx_cmp, kx_oF, kx_eqN, kx_nil, kx_c1, kx_ft, kx_aI, kx_aL, kx_aR, kx_ln, Nat.reduceAdd, Option.toList, List.cons_append, List.nil_append]
    repeat (simp only [e1x, c1x, e2x, c2x, e3x, c3x, e4x, c4x, e5x, c5x, h143b, hc0]; try dsimp only [kx_wp, kx_step, kx_lI, kx_lL, kx_lA, kx_gl, kx_pI, kx_pL, kx_pR, kx_pA, kx_pV, kx_s1, kx_s2, kx_sl, kx_pre, kx_c2, kx_pl, kx_cmp, kx_oF, kx_eqN, kx_nil, kx_c1, kx_ft, kx_aI, kx_aL, kx_aR, kx_ln, Nat.reduceAdd, Option.toList, List.cons_append, List.nil_append])
    repeat' apply And.intro
    all_goals try (first | with_reducible assumption | (with_reducible refine ck_nzI ?_; simp; done) | (with_reducible refine ck_nzL ?_; simp; done) | (with_reducible refine vp_in_nI ?_ ?_ <;> first | omega | decide) | (with_reducible refine Nat.le_of_ble_eq_true ?_; rfl) | omega | (unfold vp_in; decide))
    · intro zc2067
      refine hB bL_law__2082 _ _ _ _ _ _ _ kL_law__2082 ?_
      dsimp only [bL_law__2082, kx_wp, kx_step, kx_lI, kx_lL, kx_lA, kx_gl, kx_pI, kx_pL, kx_pR, kx_pA, kx_pV, kx_s1, kx_s2, kx_sl, kx_pre, kx_c2, kx_pl, kx_cmp, kx_oF, kx_eqN, kx_nil, kx_c1, kx_ft, kx_aI, kx_aL, kx_aR, kx_ln, Nat.reduceAdd, Option.toList, List.cons_append, List.nil_append]
      repeat (simp only [e1x, c1x, e2x, c2x, e3x, c3x, e4x, c4x, e5x, c5x, h143b, hc0]; try dsimp only [kx_wp, kx_step, kx_lI, kx_lL, kx_lA, kx_gl, kx_pI, kx_pL, kx_pR, kx_pA, kx_pV, kx_s1, kx_s2, kx_sl, kx_pre, kx_c2, kx_pl, kx_cmp, kx_oF, kx_eqN, kx_nil, kx_c1, kx_ft, kx_aI, kx_aL, kx_aR, kx_ln, Nat.reduceAdd, Option.toList, List.cons_append, List.nil_append])
      repeat' apply And.intro
      all_goals try (first | with_reducible assumption | (with_reducible refine ck_nzI ?_; simp; done) | (with_reducible refine ck_nzL ?_; simp; done) | (with_reducible refine vp_in_nI ?_ ?_ <;> first | omega | decide) | (with_reducible refine Nat.le_of_ble_eq_true ?_; rfl) | omega | (unfold vp_in; decide))
      exact hgo P3 s2 S2 cl1 mi1 se1 bl1 go2 _ _ _ _ _ hI h34 h143b (by omega) (by omega) (by omega)
    · intro zc2067
      refine hB bL_law__2070 _ _ _ _ _ _ _ kL_law__2070 ?_
      dsimp only [bL_law__2070, kx_wp, kx_step, kx_lI, kx_lL, kx_lA, kx_gl, kx_pI, kx_pL, kx_pR, kx_pA, kx_pV, kx_s1, kx_s2, kx_sl, kx_pre, kx_c2, kx_pl, kx_cmp, kx_oF, kx_eqN, kx_nil, kx_c1, kx_ft, kx_aI, kx_aL, kx_aR, kx_ln, Nat.reduceAdd, Option.toList, List.cons_append, List.nil_append]
      repeat (simp only [e1x, c1x, e2x, c2x, e3x, c3x, e4x, c4x, e5x, c5x, h143b, hc0]; try dsimp only [kx_wp, kx_step, kx_lI, kx_lL, kx_lA, kx_gl, kx_pI, kx_pL, kx_pR, kx_pA, kx_pV, kx_s1, kx_s2, kx_sl, kx_pre, kx_c2, kx_pl, kx_cmp, kx_oF, kx_eqN, kx_nil, kx_c1, kx_ft, kx_aI, kx_aL, kx_aR, kx_ln, Nat.reduceAdd, Option.toList, List.cons_append, List.nil_append])
      repeat' apply And.intro
      all_goals try (first | with_reducible assumption | (with_reducible refine ck_nzI ?_; simp; done) | (with_reducible refine ck_nzL ?_; simp; done) | (with_reducible refine vp_in_nI ?_ ?_ <;> first | omega | decide) | (with_reducible refine Nat.le_of_ble_eq_true ?_; rfl) | omega | (unfold vp_in; decide))
      · intro zc2077
        refine hB bL_law__2082 _ _ _ _ _ _ _ kL_law__2082 ?_
        dsimp only [bL_law__2082, kx_wp, kx_step, kx_lI, kx_lL, kx_lA, kx_gl, kx_pI, kx_pL, kx_pR, kx_pA, kx_pV, kx_s1, kx_s2, kx_sl, kx_pre, kx_c2, kx_pl, kx_cmp, kx_oF, kx_eqN, kx_nil, kx_c1, kx_ft, kx_aI, kx_aL, kx_aR, kx_ln, Nat.reduceAdd, Option.toList, List.cons_append, List.nil_append]
        repeat (simp only [e1x, c1x, e2x, c2x, e3x, c3x, e4x, c4x, e5x, c5x, h143b, hc0]; try dsimp only [kx_wp, kx_step, kx_lI, kx_lL, kx_lA, kx_gl, kx_pI, kx_pL, kx_pR, kx_pA, kx_pV, kx_s1, kx_s2, kx_sl, kx_pre, kx_c2, kx_pl, kx_cmp, kx_oF, kx_eqN, kx_nil, kx_c1, kx_ft, kx_aI, kx_aL, kx_aR, kx_ln, Nat.reduceAdd, Option.toList, List.cons_append, List.nil_append])
        repeat' apply And.intro
        all_goals try (first | with_reducible assumption | (with_reducible refine ck_nzI ?_; simp; done) | (with_reducible refine ck_nzL ?_; simp; done) | (with_reducible refine vp_in_nI ?_ ?_ <;> first | omega | decide) | (with_reducible refine Nat.le_of_ble_eq_true ?_; rfl) | omega | (unfold vp_in; decide))
        exact hgo P3 s2 S2 cl1 mi1 se1 bl1 go2 _ _ _ _ _ hI h34 h143b (by omega) (by omega) (by omega)
      · intro zc2077
        first | exact absurd rfl zc2077 | exact absurd zc2077 (by decide) | exact absurd (by decide) zc2077 | (exfalso; first | exact zc2077 (by rw [hgo0 (Decidable.not_not.mp zc2067)]; exact lg_cmp_s _)) | (exfalso; simp_all; done)
  · intro zc2060
    first | exact absurd rfl zc2060 | exact absurd zc2060 (by decide) | exact absurd (by decide) zc2060 | (exfalso; first | exact zc2077 (by rw [hgo0 (Decidable.not_not.mp zc2067)]; exact lg_cmp_s _)) | (exfalso; simp_all; done)

set_option maxRecDepth 100000 in
set_option maxHeartbeats 4000000 in
theorem cj_beyond (l : Launch) (G : kx_G) (hst : l.stackTraces = false) {P : kx_P} {sz : Nat} {M : Nat → Int32} {A : Nat → Nat → Int32} {L : Nat → Nat → Int64} {cl mi se : Nat} {bl : Nat → Nat} {go : Nat → Int64} {Ln i k n : Nat} {xs : Nat → Int32} {o5 o6 o7 : Option Value} {g : kx_F} (h : cI P sz (M, A, L) cl mi se bl) (h3 : P 3 = kI 5 Ln xs) (h143 : P 143 = kL 1 go) (hi : i + 6 ≤ Ln) (hL : Ln ≤ 3072) (hk : k + 8 ≤ 601024) (hn : n + cro bl + 2206 ≤ 7293033) (hse : se ≤ 999) (hB : kx_rB kxL_L false cL_law_ 601024 7293033 (fun r _ _ => r = some (.int 1)) g) (hN : kx_rN l G RL cL_law_ 60 601024 7293033 g) (hW : kx_rW l G RL cL_law_ 60 601024 7293033 g) (hgo : cAf g Ln xs i se k n bl) : g 2085 [some (.ref 3), some (.ref 64), some (.ref 93), some (.ref 143), some (.int (nI i)), o5, o6, o7] [] P sz k n := by
  have e1x : nI i + 1 = nI (i + 1) := by rw [show (1 : Int32) = nI 1 from rfl, nI_add]
  have c1x : (nI (i + 1)).toNatClampNeg = i + 1 := nI_clamp (by omega)
  have e2x : nI i + 2 = nI (i + 2) := by rw [show (2 : Int32) = nI 2 from rfl, nI_add]
  have c2x : (nI (i + 2)).toNatClampNeg = i + 2 := nI_clamp (by omega)
  have e3x : nI i + 3 = nI (i + 3) := by rw [show (3 : Int32) = nI 3 from rfl, nI_add]
  have c3x : (nI (i + 3)).toNatClampNeg = i + 3 := nI_clamp (by omega)
  have e4x : nI i + 4 = nI (i + 4) := by rw [show (4 : Int32) = nI 4 from rfl, nI_add]
  have c4x : (nI (i + 4)).toNatClampNeg = i + 4 := nI_clamp (by omega)
  have e5x : nI i + 5 = nI (i + 5) := by rw [show (5 : Int32) = nI 5 from rfl, nI_add]
  have c5x : (nI (i + 5)).toNatClampNeg = i + 5 := nI_clamp (by omega)
  have hc0 : (0 : Int32).toNatClampNeg = 0 := rfl
  obtain ⟨f64, h64⟩ := cI_k64 h
  have hs := cs_beyond l G hst h (xs (i + 1)) (xs (i + 2)) (xs (i + 3))
  obtain ⟨k9, dw, dm, mc, ms, cl1, mi1, se1, bl1, Q, q1, q2, q3, q4, q5, hw, hmo⟩ := cSs.s (yw := sL_beyond) (hh := hL_beyond) (Aw := [.ref 64, .int (xs (i + 1)), .int (xs (i + 2)), .int (xs (i + 3)), .ref 143]) h h143 hs (fun d mc ms Po => cw_beyond_t l G h64) (fun p hp => by
    simp only [List.mem_cons, List.not_mem_nil, or_false] at hp
    rcases hp with rfl | rfl
    · exact ⟨by decide, fun d => cw_beyond_x0 l G h64⟩
    · exact ⟨by decide, fun d => cw_beyond_x1 l G h64⟩)
  refine hB bL_law__2085 _ _ _ _ _ _ _ kL_law__2085 ?_
  dsimp only [bL_law__2085, kx_wp, kx_step, kx_lI, kx_lL, kx_lA, kx_gl, kx_pI, kx_pL, kx_pR, kx_pA, kx_pV, kx_s1, kx_s2, kx_sl, kx_pre, kx_c2, kx_pl, kx_cmp, kx_oF, kx_eqN, kx_nil, kx_c1, kx_ft, kx_aI, kx_aL, kx_aR, kx_ln, Nat.reduceAdd, Option.toList, List.cons_append, List.nil_append]
  repeat (simp only [e1x, c1x, e2x, c2x, e3x, c3x, e4x, c4x, e5x, c5x, h3]; try dsimp only [kx_wp, kx_step, kx_lI, kx_lL, kx_lA, kx_gl, kx_pI, kx_pL, kx_pR, kx_pA, kx_pV, kx_s1, kx_s2, kx_sl, kx_pre, kx_c2, kx_pl, kx_cmp, kx_oF, kx_eqN, kx_nil, kx_c1, kx_ft, kx_aI, kx_aL, kx_aR, kx_ln, Nat.reduceAdd, Option.toList, List.cons_append, List.nil_append])
  repeat' apply And.intro
  all_goals try (first | with_reducible assumption | (with_reducible refine ck_nzI ?_; simp; done) | (with_reducible refine ck_nzL ?_; simp; done) | (with_reducible refine vp_in_nI ?_ ?_ <;> first | omega | decide) | (with_reducible refine Nat.le_of_ble_eq_true ?_; rfl) | omega | (unfold vp_in; decide))
  refine hW 215 _ _ _ _ _ _ _ _ _ _ _ _ _ _ _ _ lL_215 hw rfl rfl (Nat.le_of_ble_eq_true rfl) (by omega) (by decide) (by omega) (by omega) dL_law__2105 ?_
  rintro r2 P2 s2 ⟨e2, hQ⟩
  rw [e2]
  obtain ⟨⟨fm, h93⟩, h33, hM⟩ := hmo P2 s2 hQ
  have h33 := h33.trans h3
  dsimp only [Option.toList, List.cons_append, List.nil_append]
  refine hB bL_law__2108 _ _ _ _ _ _ _ kL_law__2108 ?_
  dsimp only [bL_law__2108, kx_wp, kx_step, kx_lI, kx_lL, kx_lA, kx_gl, kx_pI, kx_pL, kx_pR, kx_pA, kx_pV, kx_s1, kx_s2, kx_sl, kx_pre, kx_c2, kx_pl, kx_cmp, kx_oF, kx_eqN, kx_nil, kx_c1, kx_ft, kx_aI, kx_aL, kx_aR, kx_ln, Nat.reduceAdd, Option.toList, List.cons_append, List.nil_append]
  repeat (simp only [e1x, c1x, e2x, c2x, e3x, c3x, e4x, c4x, e5x, c5x, h33]; try dsimp only [kx_wp, kx_step, kx_lI, kx_lL, kx_lA, kx_gl, kx_pI, kx_pL, kx_pR, kx_pA, kx_pV, kx_s1, kx_s2, kx_sl, kx_pre, kx_c2, kx_pl, kx_cmp, kx_oF, kx_eqN, kx_nil, kx_c1, kx_ft, kx_aI, kx_aL, kx_aR, kx_ln, Nat.reduceAdd, Option.toList, List.cons_append, List.nil_append])
  repeat' apply And.intro
  all_goals try (first | with_reducible assumption | (with_reducible refine ck_nzI ?_; simp; done) | (with_reducible refine ck_nzL ?_; simp; done) | (with_reducible refine vp_in_nI ?_ ?_ <;> first | omega | decide) | (with_reducible refine Nat.le_of_ble_eq_true ?_; rfl) | omega | (unfold vp_in; decide))
  refine hN.1 217 _ _ _ _ _ _ _ 11 _ _ _ _ _ _ _ _ _ _ lL_217 hM ⟨by decide, rfl⟩ h93 rfl rfl (Nat.le_of_ble_eq_true rfl) (by omega) (by decide) (by omega) (by omega) dL_law__2129 ?_
  rintro r3 P3 s3 ⟨e3, v, S2, go2, e4, hT, hk0, hI, h34, h143b, hgo0⟩
  obtain ⟨b9, e5⟩ := hT.2 (by decide)
  subst e5
  rw [e3, e4]
  have h34 := h34.trans h3
  have h93b := cI_93 hI
  have hth := cI_th l G hI
  rw [hk0] at hth
  dsimp only [Option.toList, List.cons_append, List.nil_append]
  refine hB bL_law__2132 _ _ _ _ _ _ _ kL_law__2132 ?_
  dsimp only [bL_law__2132, kx_wp, kx_step, kx_lI, kx_lL, kx_lA, kx_gl, kx_pI, kx_pL, kx_pR, kx_pA, kx_pV, kx_s1, kx_s2, kx_sl, kx_pre, kx_c2, kx_pl, kx_cmp, kx_oF, kx_eqN, kx_nil, kx_c1, kx_ft, kx_aI, kx_aL, kx_aR, kx_ln, Nat.reduceAdd, Option.toList, List.cons_append, List.nil_append]
  repeat (simp only [e1x, c1x, e2x, c2x, e3x, c3x, e4x, c4x, e5x, c5x, h143b, hc0]; try dsimp only [kx_wp, kx_step, kx_lI, kx_lL, kx_lA, kx_gl, kx_pI, kx_pL, kx_pR, kx_pA, kx_pV, kx_s1, kx_s2, kx_sl, kx_pre, kx_c2, kx_pl, kx_cmp, kx_oF, kx_eqN, kx_nil, kx_c1, kx_ft, kx_aI, kx_aL, kx_aR, kx_ln, Nat.reduceAdd, Option.toList, List.cons_append, List.nil_append])
  repeat' apply And.intro
  all_goals try (first | with_reducible assumption | (with_reducible refine ck_nzI ?_; simp; done) | (with_reducible refine ck_nzL ?_; simp; done) | (with_reducible refine vp_in_nI ?_ ?_ <;> first | omega | decide) | (with_reducible refine Nat.le_of_ble_eq_true ?_; rfl) | omega | (unfold vp_in; decide))
  refine hN.1 120 _ _ _ _ _ _ _ 11 _ _ _ _ _ _ _ _ _ _ lL_120 hth.n ⟨by decide, rfl⟩ h93b rfl rfl (Nat.le_of_ble_eq_true rfl) (by omega) (by decide) (by omega) (by omega) dL_law__2135 ?_
  rintro r4 P4 s4 ⟨e6, e7, e8⟩
  rw [e6, e7, e8]
  dsimp only [Option.toList, List.cons_append, List.nil_append]
  refine hB bL_law__2138 _ _ _ _ _ _ _ kL_law__2138 ?_
  dsimp only [bL_law__2138, kx_wp, kx_step, kx_lI, kx_lL, kx_lA, kx_gl, kx_pI, kx_pL, kx_pR, kx_pA, kx_pV, kx_s1, kx_s2, kx_sl, kx_pre, kx_c2, kx_pl, kx_cmp, kx_oF, kx_eqN, kx_nil, kx_c1, kx_ft, kx_aI, kx_aL, kx_aR, kx_ln, Nat.reduceAdd, Option.toList, List.cons_append, List.nil_append]
  repeat (simp only [e1x, c1x, e2x, c2x, e3x, c3x, e4x, c4x, e5x, c5x, h143b, hc0]; try dsimp only [kx_wp, kx_step, kx_lI, kx_lL, kx_lA, kx_gl, kx_pI, kx_pL, kx_pR, kx_pA, kx_pV, kx_s1, kx_s2, kx_sl, kx_pre, kx_c2, kx_pl, kx_cmp, kx_oF, kx_eqN, kx_nil, kx_c1, kx_ft, kx_aI, kx_aL, kx_aR, kx_ln, Nat.reduceAdd, Option.toList, List.cons_append, List.nil_append])
  repeat' apply And.intro
  all_goals try (first | with_reducible assumption | (with_reducible refine ck_nzI ?_; simp; done) | (with_reducible refine ck_nzL ?_; simp; done) | (with_reducible refine vp_in_nI ?_ ?_ <;> first | omega | decide) | (with_reducible refine Nat.le_of_ble_eq_true ?_; rfl) | omega | (unfold vp_in; decide))
  · intro zc2140
    refine hB bL_law__2145 _ _ _ _ _ _ _ kL_law__2145 ?_
    dsimp only [bL_law__2145, kx_wp, kx_step, kx_lI, kx_lL, kx_lA, kx_gl, kx_pI, kx_pL, kx_pR, kx_pA, kx_pV, kx_s1, kx_s2, kx_sl, kx_pre, kx_c2, kx_pl, kx_cmp, kx_oF, kx_eqN, kx_nil, kx_c1, kx_ft, kx_aI, kx_aL, kx_aR, kx_ln, Nat.reduceAdd, Option.toList, List.cons_append, List.nil_append]
    repeat (simp only [e1x, c1x, e2x, c2x, e3x, c3x, e4x, c4x, e5x, c5x, h143b, hc0]; try dsimp only [kx_wp, kx_step, kx_lI, kx_lL, kx_lA, kx_gl, kx_pI, kx_pL, kx_pR, kx_pA, kx_pV, kx_s1, kx_s2, kx_sl, kx_pre, kx_c2, kx_pl, kx_cmp, kx_oF, kx_eqN, kx_nil, kx_c1, kx_ft, kx_aI, kx_aL, kx_aR, kx_ln, Nat.reduceAdd, Option.toList, List.cons_append, List.nil_append])
    repeat' apply And.intro
    all_goals try (first | with_reducible assumption | (with_reducible refine ck_nzI ?_; simp; done) | (with_reducible refine ck_nzL ?_; simp; done) | (with_reducible refine vp_in_nI ?_ ?_ <;> first | omega | decide) | (with_reducible refine Nat.le_of_ble_eq_true ?_; rfl) | omega | (unfold vp_in; decide))
    · intro zc2147
      refine hB bL_law__2162 _ _ _ _ _ _ _ kL_law__2162 ?_
      dsimp only [bL_law__2162, kx_wp, kx_step, kx_lI, kx_lL, kx_lA, kx_gl, kx_pI, kx_pL, kx_pR, kx_pA, kx_pV, kx_s1, kx_s2, kx_sl, kx_pre, kx_c2, kx_pl, kx_cmp, kx_oF, kx_eqN, kx_nil, kx_c1, kx_ft, kx_aI, kx_aL, kx_aR, kx_ln, Nat.reduceAdd, Option.toList, List.cons_append, List.nil_append]
      repeat (simp only [e1x, c1x, e2x, c2x, e3x, c3x, e4x, c4x, e5x, c5x, h143b, hc0]; try dsimp only [kx_wp, kx_step, kx_lI, kx_lL, kx_lA, kx_gl, kx_pI, kx_pL, kx_pR, kx_pA, kx_pV, kx_s1, kx_s2, kx_sl, kx_pre, kx_c2, kx_pl, kx_cmp, kx_oF, kx_eqN, kx_nil, kx_c1, kx_ft, kx_aI, kx_aL, kx_aR, kx_ln, Nat.reduceAdd, Option.toList, List.cons_append, List.nil_append])
      repeat' apply And.intro
      all_goals try (first | with_reducible assumption | (with_reducible refine ck_nzI ?_; simp; done) | (with_reducible refine ck_nzL ?_; simp; done) | (with_reducible refine vp_in_nI ?_ ?_ <;> first | omega | decide) | (with_reducible refine Nat.le_of_ble_eq_true ?_; rfl) | omega | (unfold vp_in; decide))
      exact hgo P3 s2 S2 cl1 mi1 se1 bl1 go2 _ _ _ _ _ hI h34 h143b (by omega) (by omega) (by omega)
    · intro zc2147
      refine hB bL_law__2150 _ _ _ _ _ _ _ kL_law__2150 ?_
      dsimp only [bL_law__2150, kx_wp, kx_step, kx_lI, kx_lL, kx_lA, kx_gl, kx_pI, kx_pL, kx_pR, kx_pA, kx_pV, kx_s1, kx_s2, kx_sl, kx_pre, kx_c2, kx_pl, kx_cmp, kx_oF, kx_eqN, kx_nil, kx_c1, kx_ft, kx_aI, kx_aL, kx_aR, kx_ln, Nat.reduceAdd, Option.toList, List.cons_append, List.nil_append]
      repeat (simp only [e1x, c1x, e2x, c2x, e3x, c3x, e4x, c4x, e5x, c5x, h143b, hc0]; try dsimp only [kx_wp, kx_step, kx_lI, kx_lL, kx_lA, kx_gl, kx_pI, kx_pL, kx_pR, kx_pA, kx_pV, kx_s1, kx_s2, kx_sl, kx_pre, kx_c2, kx_pl, kx_cmp, kx_oF, kx_eqN, kx_nil, kx_c1, kx_ft, kx_aI, kx_aL, kx_aR, kx_ln, Nat.reduceAdd, Option.toList, List.cons_append, List.nil_append])
      repeat' apply And.intro
      all_goals try (first | with_reducible assumption | (with_reducible refine ck_nzI ?_; simp; done) | (with_reducible refine ck_nzL ?_; simp; done) | (with_reducible refine vp_in_nI ?_ ?_ <;> first | omega | decide) | (with_reducible refine Nat.le_of_ble_eq_true ?_; rfl) | omega | (unfold vp_in; decide))
      · intro zc2157
        refine hB bL_law__2162 _ _ _ _ _ _ _ kL_law__2162 ?_
        dsimp only [bL_law__2162, kx_wp, kx_step, kx_lI, kx_lL, kx_lA, kx_gl, kx_pI, kx_pL, kx_pR, kx_pA, kx_pV, kx_s1, kx_s2, kx_sl, kx_pre, kx_c2, kx_pl, kx_cmp, kx_oF, kx_eqN, kx_nil, kx_c1, kx_ft, kx_aI, kx_aL, kx_aR, kx_ln, Nat.reduceAdd, Option.toList, List.cons_append, List.nil_append]
        repeat (simp only [e1x, c1x, e2x, c2x, e3x, c3x, e4x, c4x, e5x, c5x, h143b, hc0]; try dsimp only [kx_wp, kx_step, kx_lI, kx_lL, kx_lA, kx_gl, kx_pI, kx_pL, kx_pR, kx_pA, kx_pV, kx_s1, kx_s2, kx_sl, kx_pre, kx_c2, kx_pl, kx_cmp, kx_oF, kx_eqN, kx_nil, kx_c1, kx_ft, kx_aI, kx_aL, kx_aR, kx_ln, Nat.reduceAdd, Option.toList, List.cons_append, List.nil_append])
        repeat' apply And.intro
        all_goals try (first | with_reducible assumption | (with_reducible refine ck_nzI ?_; simp; done) | (with_reducible refine ck_nzL ?_; simp; done) | (with_reducible refine vp_in_nI ?_ ?_ <;> first | omega | decide) | (with_reducible refine Nat.le_of_ble_eq_true ?_; rfl) | omega | (unfold vp_in; decide))
        exact hgo P3 s2 S2 cl1 mi1 se1 bl1 go2 _ _ _ _ _ hI h34 h143b (by omega) (by omega) (by omega)
      · intro zc2157
        first | exact absurd rfl zc2157 | exact absurd zc2157 (by decide) | exact absurd (by decide) zc2157 | (exfalso; first | exact zc2157 (by rw [hgo0 (Decidable.not_not.mp zc2147)]; exact lg_cmp_s _)) | (exfalso; simp_all; done)
  · intro zc2140
    first | exact absurd rfl zc2140 | exact absurd zc2140 (by decide) | exact absurd (by decide) zc2140 | (exfalso; first | exact zc2157 (by rw [hgo0 (Decidable.not_not.mp zc2147)]; exact lg_cmp_s _)) | (exfalso; simp_all; done)

set_option maxRecDepth 100000 in
set_option maxHeartbeats 4000000 in
theorem cj_law (l : Launch) (G : kx_G) (hst : l.stackTraces = false) {P : kx_P} {sz : Nat} {M : Nat → Int32} {A : Nat → Nat → Int32} {L : Nat → Nat → Int64} {cl mi se : Nat} {bl : Nat → Nat} {go : Nat → Int64} {Ln i k n : Nat} {xs : Nat → Int32} {o5 o6 o7 : Option Value} {g : kx_F} (h : cI P sz (M, A, L) cl mi se bl) (h3 : P 3 = kI 5 Ln xs) (h143 : P 143 = kL 1 go) (hi : i + 6 ≤ Ln) (hL : Ln ≤ 3072) (hk : k + 8 ≤ 601024) (hn : n + cro bl + 2206 ≤ 7293033) (hse : se ≤ 999) (hB : kx_rB kxL_L false cL_law_ 601024 7293033 (fun r _ _ => r = some (.int 1)) g) (hN : kx_rN l G RL cL_law_ 60 601024 7293033 g) (hW : kx_rW l G RL cL_law_ 60 601024 7293033 g) (hgo : cAf g Ln xs i se k n bl) : g 2165 [some (.ref 3), some (.ref 64), some (.ref 93), some (.ref 143), some (.int (nI i)), o5, o6, o7] [] P sz k n := by
  have e1x : nI i + 1 = nI (i + 1) := by rw [show (1 : Int32) = nI 1 from rfl, nI_add]
  have c1x : (nI (i + 1)).toNatClampNeg = i + 1 := nI_clamp (by omega)
  have e2x : nI i + 2 = nI (i + 2) := by rw [show (2 : Int32) = nI 2 from rfl, nI_add]
  have c2x : (nI (i + 2)).toNatClampNeg = i + 2 := nI_clamp (by omega)
  have e3x : nI i + 3 = nI (i + 3) := by rw [show (3 : Int32) = nI 3 from rfl, nI_add]
  have c3x : (nI (i + 3)).toNatClampNeg = i + 3 := nI_clamp (by omega)
  have e4x : nI i + 4 = nI (i + 4) := by rw [show (4 : Int32) = nI 4 from rfl, nI_add]
  have c4x : (nI (i + 4)).toNatClampNeg = i + 4 := nI_clamp (by omega)
  have e5x : nI i + 5 = nI (i + 5) := by rw [show (5 : Int32) = nI 5 from rfl, nI_add]
  have c5x : (nI (i + 5)).toNatClampNeg = i + 5 := nI_clamp (by omega)
  have hc0 : (0 : Int32).toNatClampNeg = 0 := rfl
  obtain ⟨f64, h64⟩ := cI_k64 h
  have hs := cs_law l G hst h (xs (i + 1)) (xs (i + 2))
  obtain ⟨k9, dw, dm, mc, ms, cl1, mi1, se1, bl1, Q, q1, q2, q3, q4, q5, hw, hmo⟩ := cSs.s (yw := sL_law) (hh := hL_law) (Aw := [.ref 64, .int (xs (i + 1)), .int (xs (i + 2)), .ref 143]) h h143 hs (fun d mc ms Po => cw_law_t l G h64) (fun p hp => by
    simp only [List.mem_cons, List.not_mem_nil, or_false] at hp
    rcases hp with rfl | rfl
    · exact ⟨by decide, fun d => cw_law_x0 l G h64⟩
    · exact ⟨by decide, fun d => cw_law_x1 l G h64⟩)
  refine hB bL_law__2165 _ _ _ _ _ _ _ kL_law__2165 ?_
  dsimp only [bL_law__2165, kx_wp, kx_step, kx_lI, kx_lL, kx_lA, kx_gl, kx_pI, kx_pL, kx_pR, kx_pA, kx_pV, kx_s1, kx_s2, kx_sl, kx_pre, kx_c2, kx_pl, kx_cmp, kx_oF, kx_eqN, kx_nil, kx_c1, kx_ft, kx_aI, kx_aL, kx_aR, kx_ln, Nat.reduceAdd, Option.toList, List.cons_append, List.nil_append]
  repeat (simp only [e1x, c1x, e2x, c2x, e3x, c3x, e4x, c4x, e5x, c5x, h3]; try dsimp only [kx_wp, kx_step, kx_lI, kx_lL, kx_lA, kx_gl, kx_pI, kx_pL, kx_pR, kx_pA, kx_pV, kx_s1, kx_s2, kx_sl, kx_pre, kx_c2, kx_pl, kx_cmp, kx_oF, kx_eqN, kx_nil, kx_c1, kx_ft, kx_aI, kx_aL, kx_aR, kx_ln, Nat.reduceAdd, Option.toList, List.cons_append, List.nil_append])
  repeat' apply And.intro
  all_goals try (first | with_reducible assumption | (with_reducible refine ck_nzI ?_; simp; done) | (with_reducible refine ck_nzL ?_; simp; done) | (with_reducible refine vp_in_nI ?_ ?_ <;> first | omega | decide) | (with_reducible refine Nat.le_of_ble_eq_true ?_; rfl) | omega | (unfold vp_in; decide))
  refine hW 218 _ _ _ _ _ _ _ _ _ _ _ _ _ _ _ _ lL_218 hw rfl rfl (Nat.le_of_ble_eq_true rfl) (by omega) (by decide) (by omega) (by omega) dL_law__2179 ?_
  rintro r2 P2 s2 ⟨e2, hQ⟩
  rw [e2]
  obtain ⟨⟨fm, h93⟩, h33, hM⟩ := hmo P2 s2 hQ
  have h33 := h33.trans h3
  dsimp only [Option.toList, List.cons_append, List.nil_append]
  refine hB bL_law__2182 _ _ _ _ _ _ _ kL_law__2182 ?_
  dsimp only [bL_law__2182, kx_wp, kx_step, kx_lI, kx_lL, kx_lA, kx_gl, kx_pI, kx_pL, kx_pR, kx_pA, kx_pV, kx_s1, kx_s2, kx_sl, kx_pre, kx_c2, kx_pl, kx_cmp, kx_oF, kx_eqN, kx_nil, kx_c1, kx_ft, kx_aI, kx_aL, kx_aR, kx_ln, Nat.reduceAdd, Option.toList, List.cons_append, List.nil_append]
  repeat (simp only [e1x, c1x, e2x, c2x, e3x, c3x, e4x, c4x, e5x, c5x, h33]; try dsimp only [kx_wp, kx_step, kx_lI, kx_lL, kx_lA, kx_gl, kx_pI, kx_pL, kx_pR, kx_pA, kx_pV, kx_s1, kx_s2, kx_sl, kx_pre, kx_c2, kx_pl, kx_cmp, kx_oF, kx_eqN, kx_nil, kx_c1, kx_ft, kx_aI, kx_aL, kx_aR, kx_ln, Nat.reduceAdd, Option.toList, List.cons_append, List.nil_append])
  repeat' apply And.intro
  all_goals try (first | with_reducible assumption | (with_reducible refine ck_nzI ?_; simp; done) | (with_reducible refine ck_nzL ?_; simp; done) | (with_reducible refine vp_in_nI ?_ ?_ <;> first | omega | decide) | (with_reducible refine Nat.le_of_ble_eq_true ?_; rfl) | omega | (unfold vp_in; decide))
  refine hN.1 220 _ _ _ _ _ _ _ 11 _ _ _ _ _ _ _ _ _ _ lL_220 hM ⟨by decide, rfl⟩ h93 rfl rfl (Nat.le_of_ble_eq_true rfl) (by omega) (by decide) (by omega) (by omega) dL_law__2197 ?_
  rintro r3 P3 s3 ⟨e3, v, S2, go2, e4, hT, hk0, hI, h34, h143b, hgo0⟩
  obtain ⟨b9, e5⟩ := hT.2 (by decide)
  subst e5
  rw [e3, e4]
  have h34 := h34.trans h3
  have h93b := cI_93 hI
  have hth := cI_th l G hI
  rw [hk0] at hth
  dsimp only [Option.toList, List.cons_append, List.nil_append]
  refine hB bL_law__2200 _ _ _ _ _ _ _ kL_law__2200 ?_
  dsimp only [bL_law__2200, kx_wp, kx_step, kx_lI, kx_lL, kx_lA, kx_gl, kx_pI, kx_pL, kx_pR, kx_pA, kx_pV, kx_s1, kx_s2, kx_sl, kx_pre, kx_c2, kx_pl, kx_cmp, kx_oF, kx_eqN, kx_nil, kx_c1, kx_ft, kx_aI, kx_aL, kx_aR, kx_ln, Nat.reduceAdd, Option.toList, List.cons_append, List.nil_append]
  repeat (simp only [e1x, c1x, e2x, c2x, e3x, c3x, e4x, c4x, e5x, c5x, h143b, hc0]; try dsimp only [kx_wp, kx_step, kx_lI, kx_lL, kx_lA, kx_gl, kx_pI, kx_pL, kx_pR, kx_pA, kx_pV, kx_s1, kx_s2, kx_sl, kx_pre, kx_c2, kx_pl, kx_cmp, kx_oF, kx_eqN, kx_nil, kx_c1, kx_ft, kx_aI, kx_aL, kx_aR, kx_ln, Nat.reduceAdd, Option.toList, List.cons_append, List.nil_append])
  repeat' apply And.intro
  all_goals try (first | with_reducible assumption | (with_reducible refine ck_nzI ?_; simp; done) | (with_reducible refine ck_nzL ?_; simp; done) | (with_reducible refine vp_in_nI ?_ ?_ <;> first | omega | decide) | (with_reducible refine Nat.le_of_ble_eq_true ?_; rfl) | omega | (unfold vp_in; decide))
  refine hN.1 120 _ _ _ _ _ _ _ 11 _ _ _ _ _ _ _ _ _ _ lL_120 hth.n ⟨by decide, rfl⟩ h93b rfl rfl (Nat.le_of_ble_eq_true rfl) (by omega) (by decide) (by omega) (by omega) dL_law__2203 ?_
  rintro r4 P4 s4 ⟨e6, e7, e8⟩
  rw [e6, e7, e8]
  dsimp only [Option.toList, List.cons_append, List.nil_append]
  refine hB bL_law__2206 _ _ _ _ _ _ _ kL_law__2206 ?_
  dsimp only [bL_law__2206, kx_wp, kx_step, kx_lI, kx_lL, kx_lA, kx_gl, kx_pI, kx_pL, kx_pR, kx_pA, kx_pV, kx_s1, kx_s2, kx_sl, kx_pre, kx_c2, kx_pl, kx_cmp, kx_oF, kx_eqN, kx_nil, kx_c1, kx_ft, kx_aI, kx_aL, kx_aR, kx_ln, Nat.reduceAdd, Option.toList, List.cons_append, List.nil_append]
  repeat (simp only [e1x, c1x, e2x, c2x, e3x, c3x, e4x, c4x, e5x, c5x, h143b, hc0]; try dsimp only [kx_wp, kx_step, kx_lI, kx_lL, kx_lA, kx_gl, kx_pI, kx_pL, kx_pR, kx_pA, kx_pV, kx_s1, kx_s2, kx_sl, kx_pre, kx_c2, kx_pl, kx_cmp, kx_oF, kx_eqN, kx_nil, kx_c1, kx_ft, kx_aI, kx_aL, kx_aR, kx_ln, Nat.reduceAdd, Option.toList, List.cons_append, List.nil_append])
  repeat' apply And.intro
  all_goals try (first | with_reducible assumption | (with_reducible refine ck_nzI ?_; simp; done) | (with_reducible refine ck_nzL ?_; simp; done) | (with_reducible refine vp_in_nI ?_ ?_ <;> first | omega | decide) | (with_reducible refine Nat.le_of_ble_eq_true ?_; rfl) | omega | (unfold vp_in; decide))
  · intro zc2208
    refine hB bL_law__2213 _ _ _ _ _ _ _ kL_law__2213 ?_
    dsimp only [bL_law__2213, kx_wp, kx_step, kx_lI, kx_lL, kx_lA, kx_gl, kx_pI, kx_pL, kx_pR, kx_pA, kx_pV, kx_s1, kx_s2, kx_sl, kx_pre, kx_c2, kx_pl, kx_cmp, kx_oF, kx_eqN, kx_nil, kx_c1, kx_ft, kx_aI, kx_aL, kx_aR, kx_ln, Nat.reduceAdd, Option.toList, List.cons_append, List.nil_append]
    repeat (simp only [e1x, c1x, e2x, c2x, e3x, c3x, e4x, c4x, e5x, c5x, h143b, hc0]; try dsimp only [kx_wp, kx_step, kx_lI, kx_lL, kx_lA, kx_gl, kx_pI, kx_pL, kx_pR, kx_pA, kx_pV, kx_s1, kx_s2, kx_sl, kx_pre, kx_c2, kx_pl, kx_cmp, kx_oF, kx_eqN, kx_nil, kx_c1, kx_ft, kx_aI, kx_aL, kx_aR, kx_ln, Nat.reduceAdd, Option.toList, List.cons_append, List.nil_append])
    repeat' apply And.intro
    all_goals try (first | with_reducible assumption | (with_reducible refine ck_nzI ?_; simp; done) | (with_reducible refine ck_nzL ?_; simp; done) | (with_reducible refine vp_in_nI ?_ ?_ <;> first | omega | decide) | (with_reducible refine Nat.le_of_ble_eq_true ?_; rfl) | omega | (unfold vp_in; decide))
    · intro zc2215
      refine hB bL_law__2230 _ _ _ _ _ _ _ kL_law__2230 ?_
      dsimp only [bL_law__2230, kx_wp, kx_step, kx_lI, kx_lL, kx_lA, kx_gl, kx_pI, kx_pL, kx_pR, kx_pA, kx_pV, kx_s1, kx_s2, kx_sl, kx_pre, kx_c2, kx_pl, kx_cmp, kx_oF, kx_eqN, kx_nil, kx_c1, kx_ft, kx_aI, kx_aL, kx_aR, kx_ln, Nat.reduceAdd, Option.toList, List.cons_append, List.nil_append]
      repeat (simp only [e1x, c1x, e2x, c2x, e3x, c3x, e4x, c4x, e5x, c5x, h143b, hc0]; try dsimp only [kx_wp, kx_step, kx_lI, kx_lL, kx_lA, kx_gl, kx_pI, kx_pL, kx_pR, kx_pA, kx_pV, kx_s1, kx_s2, kx_sl, kx_pre, kx_c2, kx_pl, kx_cmp, kx_oF, kx_eqN, kx_nil, kx_c1, kx_ft, kx_aI, kx_aL, kx_aR, kx_ln, Nat.reduceAdd, Option.toList, List.cons_append, List.nil_append])
      repeat' apply And.intro
      all_goals try (first | with_reducible assumption | (with_reducible refine ck_nzI ?_; simp; done) | (with_reducible refine ck_nzL ?_; simp; done) | (with_reducible refine vp_in_nI ?_ ?_ <;> first | omega | decide) | (with_reducible refine Nat.le_of_ble_eq_true ?_; rfl) | omega | (unfold vp_in; decide))
      exact hgo P3 s2 S2 cl1 mi1 se1 bl1 go2 _ _ _ _ _ hI h34 h143b (by omega) (by omega) (by omega)
    · intro zc2215
      refine hB bL_law__2218 _ _ _ _ _ _ _ kL_law__2218 ?_
      dsimp only [bL_law__2218, kx_wp, kx_step, kx_lI, kx_lL, kx_lA, kx_gl, kx_pI, kx_pL, kx_pR, kx_pA, kx_pV, kx_s1, kx_s2, kx_sl, kx_pre, kx_c2, kx_pl, kx_cmp, kx_oF, kx_eqN, kx_nil, kx_c1, kx_ft, kx_aI, kx_aL, kx_aR, kx_ln, Nat.reduceAdd, Option.toList, List.cons_append, List.nil_append]
      repeat (simp only [e1x, c1x, e2x, c2x, e3x, c3x, e4x, c4x, e5x, c5x, h143b, hc0]; try dsimp only [kx_wp, kx_step, kx_lI, kx_lL, kx_lA, kx_gl, kx_pI, kx_pL, kx_pR, kx_pA, kx_pV, kx_s1, kx_s2, kx_sl, kx_pre, kx_c2, kx_pl, kx_cmp, kx_oF, kx_eqN, kx_nil, kx_c1, kx_ft, kx_aI, kx_aL, kx_aR, kx_ln, Nat.reduceAdd, Option.toList, List.cons_append, List.nil_append])
      repeat' apply And.intro
      all_goals try (first | with_reducible assumption | (with_reducible refine ck_nzI ?_; simp; done) | (with_reducible refine ck_nzL ?_; simp; done) | (with_reducible refine vp_in_nI ?_ ?_ <;> first | omega | decide) | (with_reducible refine Nat.le_of_ble_eq_true ?_; rfl) | omega | (unfold vp_in; decide))
      · intro zc2225
        refine hB bL_law__2230 _ _ _ _ _ _ _ kL_law__2230 ?_
        dsimp only [bL_law__2230, kx_wp, kx_step, kx_lI, kx_lL, kx_lA, kx_gl, kx_pI, kx_pL, kx_pR, kx_pA, kx_pV, kx_s1, kx_s2, kx_sl, kx_pre, kx_c2, kx_pl, kx_cmp, kx_oF, kx_eqN, kx_nil, kx_c1, kx_ft, kx_aI, kx_aL, kx_aR, kx_ln, Nat.reduceAdd, Option.toList, List.cons_append, List.nil_append]
        repeat (simp only [e1x, c1x, e2x, c2x, e3x, c3x, e4x, c4x, e5x, c5x, h143b, hc0]; try dsimp only [kx_wp, kx_step, kx_lI, kx_lL, kx_lA, kx_gl, kx_pI, kx_pL, kx_pR, kx_pA, kx_pV, kx_s1, kx_s2, kx_sl, kx_pre, kx_c2, kx_pl, kx_cmp, kx_oF, kx_eqN, kx_nil, kx_c1, kx_ft, kx_aI, kx_aL, kx_aR, kx_ln, Nat.reduceAdd, Option.toList, List.cons_append, List.nil_append])
        repeat' apply And.intro
        all_goals try (first | with_reducible assumption | (with_reducible refine ck_nzI ?_; simp; done) | (with_reducible refine ck_nzL ?_; simp; done) | (with_reducible refine vp_in_nI ?_ ?_ <;> first | omega | decide) | (with_reducible refine Nat.le_of_ble_eq_true ?_; rfl) | omega | (unfold vp_in; decide))
        exact hgo P3 s2 S2 cl1 mi1 se1 bl1 go2 _ _ _ _ _ hI h34 h143b (by omega) (by omega) (by omega)
      · intro zc2225
        first | exact absurd rfl zc2225 | exact absurd zc2225 (by decide) | exact absurd (by decide) zc2225 | (exfalso; first | exact zc2225 (by rw [hgo0 (Decidable.not_not.mp zc2215)]; exact lg_cmp_s _)) | (exfalso; simp_all; done)
  · intro zc2208
    first | exact absurd rfl zc2208 | exact absurd zc2208 (by decide) | exact absurd (by decide) zc2208 | (exfalso; first | exact zc2225 (by rw [hgo0 (Decidable.not_not.mp zc2215)]; exact lg_cmp_s _)) | (exfalso; simp_all; done)

set_option maxRecDepth 100000 in
set_option maxHeartbeats 4000000 in
theorem cj_lawful (l : Launch) (G : kx_G) (hst : l.stackTraces = false) {P : kx_P} {sz : Nat} {M : Nat → Int32} {A : Nat → Nat → Int32} {L : Nat → Nat → Int64} {cl mi se : Nat} {bl : Nat → Nat} {go : Nat → Int64} {Ln i k n : Nat} {xs : Nat → Int32} {o5 o6 o7 : Option Value} {g : kx_F} (h : cI P sz (M, A, L) cl mi se bl) (h3 : P 3 = kI 5 Ln xs) (h143 : P 143 = kL 1 go) (hi : i + 6 ≤ Ln) (hL : Ln ≤ 3072) (hk : k + 8 ≤ 601024) (hn : n + cro bl + 2206 ≤ 7293033) (hse : se ≤ 999) (hB : kx_rB kxL_L false cL_law_ 601024 7293033 (fun r _ _ => r = some (.int 1)) g) (hN : kx_rN l G RL cL_law_ 60 601024 7293033 g) (hW : kx_rW l G RL cL_law_ 60 601024 7293033 g) (hgo : cAf g Ln xs i se k n bl) : g 2233 [some (.ref 3), some (.ref 64), some (.ref 93), some (.ref 143), some (.int (nI i)), o5, o6, o7] [] P sz k n := by
  have e1x : nI i + 1 = nI (i + 1) := by rw [show (1 : Int32) = nI 1 from rfl, nI_add]
  have c1x : (nI (i + 1)).toNatClampNeg = i + 1 := nI_clamp (by omega)
  have e2x : nI i + 2 = nI (i + 2) := by rw [show (2 : Int32) = nI 2 from rfl, nI_add]
  have c2x : (nI (i + 2)).toNatClampNeg = i + 2 := nI_clamp (by omega)
  have e3x : nI i + 3 = nI (i + 3) := by rw [show (3 : Int32) = nI 3 from rfl, nI_add]
  have c3x : (nI (i + 3)).toNatClampNeg = i + 3 := nI_clamp (by omega)
  have e4x : nI i + 4 = nI (i + 4) := by rw [show (4 : Int32) = nI 4 from rfl, nI_add]
  have c4x : (nI (i + 4)).toNatClampNeg = i + 4 := nI_clamp (by omega)
  have e5x : nI i + 5 = nI (i + 5) := by rw [show (5 : Int32) = nI 5 from rfl, nI_add]
  have c5x : (nI (i + 5)).toNatClampNeg = i + 5 := nI_clamp (by omega)
  have hc0 : (0 : Int32).toNatClampNeg = 0 := rfl
  obtain ⟨f64, h64⟩ := cI_k64 h
  have hs := cs_lawful l G h (xs (i + 1)) (xs (i + 2))
  obtain ⟨v, dc, dm, mc, ms, cl1, mi1, se1, bl1, Q, q1, q2, q3, q4, q5, hT, hw, hmo⟩ := hs.d h h143
  obtain ⟨b9, e9⟩ := hT.2 (by decide)
  subst e9
  refine hB bL_law__2233 _ _ _ _ _ _ _ kL_law__2233 ?_
  dsimp only [bL_law__2233, kx_wp, kx_step, kx_lI, kx_lL, kx_lA, kx_gl, kx_pI, kx_pL, kx_pR, kx_pA, kx_pV, kx_s1, kx_s2, kx_sl, kx_pre, kx_c2, kx_pl, kx_cmp, kx_oF, kx_eqN, kx_nil, kx_c1, kx_ft, kx_aI, kx_aL, kx_aR, kx_ln, Nat.reduceAdd, Option.toList, List.cons_append, List.nil_append]
  repeat (simp only [e1x, c1x, e2x, c2x, e3x, c3x, e4x, c4x, e5x, c5x, h3]; try dsimp only [kx_wp, kx_step, kx_lI, kx_lL, kx_lA, kx_gl, kx_pI, kx_pL, kx_pR, kx_pA, kx_pV, kx_s1, kx_s2, kx_sl, kx_pre, kx_c2, kx_pl, kx_cmp, kx_oF, kx_eqN, kx_nil, kx_c1, kx_ft, kx_aI, kx_aL, kx_aR, kx_ln, Nat.reduceAdd, Option.toList, List.cons_append, List.nil_append])
  repeat' apply And.intro
  all_goals try (first | with_reducible assumption | (with_reducible refine ck_nzI ?_; simp; done) | (with_reducible refine ck_nzL ?_; simp; done) | (with_reducible refine vp_in_nI ?_ ?_ <;> first | omega | decide) | (with_reducible refine Nat.le_of_ble_eq_true ?_; rfl) | omega | (unfold vp_in; decide))
  refine hN.1 221 _ _ _ _ _ _ _ 10 _ _ _ _ _ _ _ _ _ _ lL_221 hw ⟨by decide, rfl⟩ h64 rfl rfl (Nat.le_of_ble_eq_true rfl) (by omega) (by decide) (by omega) (by omega) dL_law__2246 ?_
  rintro r2 P2 s2 ⟨e2, hQ⟩
  rw [e2]
  obtain ⟨⟨fm, h93⟩, h33, hM⟩ := hmo P2 s2 hQ
  have h33 := h33.trans h3
  dsimp only [Option.toList, List.cons_append, List.nil_append]
  refine hB bL_law__2249 _ _ _ _ _ _ _ kL_law__2249 ?_
  dsimp only [bL_law__2249, kx_wp, kx_step, kx_lI, kx_lL, kx_lA, kx_gl, kx_pI, kx_pL, kx_pR, kx_pA, kx_pV, kx_s1, kx_s2, kx_sl, kx_pre, kx_c2, kx_pl, kx_cmp, kx_oF, kx_eqN, kx_nil, kx_c1, kx_ft, kx_aI, kx_aL, kx_aR, kx_ln, Nat.reduceAdd, Option.toList, List.cons_append, List.nil_append]
  repeat (simp only [e1x, c1x, e2x, c2x, e3x, c3x, e4x, c4x, e5x, c5x, h33]; try dsimp only [kx_wp, kx_step, kx_lI, kx_lL, kx_lA, kx_gl, kx_pI, kx_pL, kx_pR, kx_pA, kx_pV, kx_s1, kx_s2, kx_sl, kx_pre, kx_c2, kx_pl, kx_cmp, kx_oF, kx_eqN, kx_nil, kx_c1, kx_ft, kx_aI, kx_aL, kx_aR, kx_ln, Nat.reduceAdd, Option.toList, List.cons_append, List.nil_append])
  repeat' apply And.intro
  all_goals try (first | with_reducible assumption | (with_reducible refine ck_nzI ?_; simp; done) | (with_reducible refine ck_nzL ?_; simp; done) | (with_reducible refine vp_in_nI ?_ ?_ <;> first | omega | decide) | (with_reducible refine Nat.le_of_ble_eq_true ?_; rfl) | omega | (unfold vp_in; decide))
  refine hN.1 224 _ _ _ _ _ _ _ 11 _ _ _ _ _ _ _ _ _ _ lL_224 hM ⟨by decide, rfl⟩ h93 rfl rfl (Nat.le_of_ble_eq_true rfl) (by omega) (by decide) (by omega) (by omega) dL_law__2262 ?_
  rintro r3 P3 s3 ⟨e3, e4, S2, go2, hI, h34, h143b⟩
  rw [e3, e4]
  have h34 := h34.trans h3
  dsimp only [Option.toList, List.cons_append, List.nil_append]
  refine hB bL_law__2265 _ _ _ _ _ _ _ kL_law__2265 ?_
  dsimp only [bL_law__2265, kx_wp, kx_step, kx_lI, kx_lL, kx_lA, kx_gl, kx_pI, kx_pL, kx_pR, kx_pA, kx_pV, kx_s1, kx_s2, kx_sl, kx_pre, kx_c2, kx_pl, kx_cmp, kx_oF, kx_eqN, kx_nil, kx_c1, kx_ft, kx_aI, kx_aL, kx_aR, kx_ln, Nat.reduceAdd, Option.toList, List.cons_append, List.nil_append]
  repeat (simp only [e1x, c1x, e2x, c2x, e3x, c3x, e4x, c4x, e5x, c5x, h143b, hc0]; try dsimp only [kx_wp, kx_step, kx_lI, kx_lL, kx_lA, kx_gl, kx_pI, kx_pL, kx_pR, kx_pA, kx_pV, kx_s1, kx_s2, kx_sl, kx_pre, kx_c2, kx_pl, kx_cmp, kx_oF, kx_eqN, kx_nil, kx_c1, kx_ft, kx_aI, kx_aL, kx_aR, kx_ln, Nat.reduceAdd, Option.toList, List.cons_append, List.nil_append])
  repeat' apply And.intro
  all_goals try (first | with_reducible assumption | (with_reducible refine ck_nzI ?_; simp; done) | (with_reducible refine ck_nzL ?_; simp; done) | (with_reducible refine vp_in_nI ?_ ?_ <;> first | omega | decide) | (with_reducible refine Nat.le_of_ble_eq_true ?_; rfl) | omega | (unfold vp_in; decide))
  · intro zc2265
    exact hgo P3 s2 S2 cl1 mi1 se1 bl1 go2 _ _ _ _ _ hI h34 h143b (by omega) (by omega) (by omega)
  · intro zc2265
    first | exact absurd rfl zc2265 | exact absurd zc2265 (by decide) | exact absurd (by decide) zc2265 | (exfalso; simp_all; done) | (exfalso; simp_all; done)

set_option maxRecDepth 100000 in
set_option maxHeartbeats 4000000 in
theorem cj_kept (l : Launch) (G : kx_G) (hst : l.stackTraces = false) {P : kx_P} {sz : Nat} {M : Nat → Int32} {A : Nat → Nat → Int32} {L : Nat → Nat → Int64} {cl mi se : Nat} {bl : Nat → Nat} {go : Nat → Int64} {Ln i k n : Nat} {xs : Nat → Int32} {o5 o6 o7 : Option Value} {g : kx_F} (h : cI P sz (M, A, L) cl mi se bl) (h3 : P 3 = kI 5 Ln xs) (h143 : P 143 = kL 1 go) (hi : i + 6 ≤ Ln) (hL : Ln ≤ 3072) (hk : k + 8 ≤ 601024) (hn : n + cro bl + 2206 ≤ 7293033) (hse : se ≤ 999) (hB : kx_rB kxL_L false cL_law_ 601024 7293033 (fun r _ _ => r = some (.int 1)) g) (hN : kx_rN l G RL cL_law_ 60 601024 7293033 g) (hW : kx_rW l G RL cL_law_ 60 601024 7293033 g) (hgo : cAf g Ln xs i se k n bl) : g 2270 [some (.ref 3), some (.ref 64), some (.ref 93), some (.ref 143), some (.int (nI i)), o5, o6, o7] [] P sz k n := by
  have e1x : nI i + 1 = nI (i + 1) := by rw [show (1 : Int32) = nI 1 from rfl, nI_add]
  have c1x : (nI (i + 1)).toNatClampNeg = i + 1 := nI_clamp (by omega)
  have e2x : nI i + 2 = nI (i + 2) := by rw [show (2 : Int32) = nI 2 from rfl, nI_add]
  have c2x : (nI (i + 2)).toNatClampNeg = i + 2 := nI_clamp (by omega)
  have e3x : nI i + 3 = nI (i + 3) := by rw [show (3 : Int32) = nI 3 from rfl, nI_add]
  have c3x : (nI (i + 3)).toNatClampNeg = i + 3 := nI_clamp (by omega)
  have e4x : nI i + 4 = nI (i + 4) := by rw [show (4 : Int32) = nI 4 from rfl, nI_add]
  have c4x : (nI (i + 4)).toNatClampNeg = i + 4 := nI_clamp (by omega)
  have e5x : nI i + 5 = nI (i + 5) := by rw [show (5 : Int32) = nI 5 from rfl, nI_add]
  have c5x : (nI (i + 5)).toNatClampNeg = i + 5 := nI_clamp (by omega)
  have hc0 : (0 : Int32).toNatClampNeg = 0 := rfl
  obtain ⟨f64, h64⟩ := cI_k64 h
  have hs := cs_kept l G hst h (xs (i + 1)) (xs (i + 2))
  obtain ⟨k9, dw, dm, mc, ms, cl1, mi1, se1, bl1, Q, q1, q2, q3, q4, q5, hw, hmo⟩ := cSs.s (yw := sL_kept) (hh := hL_kept) (Aw := [.ref 64, .int (xs (i + 1)), .int (xs (i + 2)), .ref 143]) h h143 hs (fun d mc ms Po => cw_kept_t l G h64) (fun p hp => by
    simp only [List.mem_cons, List.not_mem_nil, or_false] at hp
    rcases hp with rfl
    · exact ⟨by decide, fun d => cw_kept_x0 l G h64⟩)
  refine hB bL_law__2270 _ _ _ _ _ _ _ kL_law__2270 ?_
  dsimp only [bL_law__2270, kx_wp, kx_step, kx_lI, kx_lL, kx_lA, kx_gl, kx_pI, kx_pL, kx_pR, kx_pA, kx_pV, kx_s1, kx_s2, kx_sl, kx_pre, kx_c2, kx_pl, kx_cmp, kx_oF, kx_eqN, kx_nil, kx_c1, kx_ft, kx_aI, kx_aL, kx_aR, kx_ln, Nat.reduceAdd, Option.toList, List.cons_append, List.nil_append]
  repeat (simp only [e1x, c1x, e2x, c2x, e3x, c3x, e4x, c4x, e5x, c5x, h3]; try dsimp only [kx_wp, kx_step, kx_lI, kx_lL, kx_lA, kx_gl, kx_pI, kx_pL, kx_pR, kx_pA, kx_pV, kx_s1, kx_s2, kx_sl, kx_pre, kx_c2, kx_pl, kx_cmp, kx_oF, kx_eqN, kx_nil, kx_c1, kx_ft, kx_aI, kx_aL, kx_aR, kx_ln, Nat.reduceAdd, Option.toList, List.cons_append, List.nil_append])
  repeat' apply And.intro
  all_goals try (first | with_reducible assumption | (with_reducible refine ck_nzI ?_; simp; done) | (with_reducible refine ck_nzL ?_; simp; done) | (with_reducible refine vp_in_nI ?_ ?_ <;> first | omega | decide) | (with_reducible refine Nat.le_of_ble_eq_true ?_; rfl) | omega | (unfold vp_in; decide))
  refine hW 225 _ _ _ _ _ _ _ _ _ _ _ _ _ _ _ _ lL_225 hw rfl rfl (Nat.le_of_ble_eq_true rfl) (by omega) (by decide) (by omega) (by omega) dL_law__2284 ?_
  rintro r2 P2 s2 ⟨e2, hQ⟩
  rw [e2]
  obtain ⟨⟨fm, h93⟩, h33, hM⟩ := hmo P2 s2 hQ
  have h33 := h33.trans h3
  dsimp only [Option.toList, List.cons_append, List.nil_append]
  refine hB bL_law__2287 _ _ _ _ _ _ _ kL_law__2287 ?_
  dsimp only [bL_law__2287, kx_wp, kx_step, kx_lI, kx_lL, kx_lA, kx_gl, kx_pI, kx_pL, kx_pR, kx_pA, kx_pV, kx_s1, kx_s2, kx_sl, kx_pre, kx_c2, kx_pl, kx_cmp, kx_oF, kx_eqN, kx_nil, kx_c1, kx_ft, kx_aI, kx_aL, kx_aR, kx_ln, Nat.reduceAdd, Option.toList, List.cons_append, List.nil_append]
  repeat (simp only [e1x, c1x, e2x, c2x, e3x, c3x, e4x, c4x, e5x, c5x, h33]; try dsimp only [kx_wp, kx_step, kx_lI, kx_lL, kx_lA, kx_gl, kx_pI, kx_pL, kx_pR, kx_pA, kx_pV, kx_s1, kx_s2, kx_sl, kx_pre, kx_c2, kx_pl, kx_cmp, kx_oF, kx_eqN, kx_nil, kx_c1, kx_ft, kx_aI, kx_aL, kx_aR, kx_ln, Nat.reduceAdd, Option.toList, List.cons_append, List.nil_append])
  repeat' apply And.intro
  all_goals try (first | with_reducible assumption | (with_reducible refine ck_nzI ?_; simp; done) | (with_reducible refine ck_nzL ?_; simp; done) | (with_reducible refine vp_in_nI ?_ ?_ <;> first | omega | decide) | (with_reducible refine Nat.le_of_ble_eq_true ?_; rfl) | omega | (unfold vp_in; decide))
  refine hN.1 227 _ _ _ _ _ _ _ 11 _ _ _ _ _ _ _ _ _ _ lL_227 hM ⟨by decide, rfl⟩ h93 rfl rfl (Nat.le_of_ble_eq_true rfl) (by omega) (by decide) (by omega) (by omega) dL_law__2302 ?_
  rintro r3 P3 s3 ⟨e3, v, S2, go2, e4, hT, hk0, hI, h34, h143b, hgo0⟩
  obtain ⟨b9, e5⟩ := hT.2 (by decide)
  subst e5
  rw [e3, e4]
  have h34 := h34.trans h3
  have h93b := cI_93 hI
  have hth := cI_th l G hI
  rw [hk0] at hth
  dsimp only [Option.toList, List.cons_append, List.nil_append]
  refine hB bL_law__2305 _ _ _ _ _ _ _ kL_law__2305 ?_
  dsimp only [bL_law__2305, kx_wp, kx_step, kx_lI, kx_lL, kx_lA, kx_gl, kx_pI, kx_pL, kx_pR, kx_pA, kx_pV, kx_s1, kx_s2, kx_sl, kx_pre, kx_c2, kx_pl, kx_cmp, kx_oF, kx_eqN, kx_nil, kx_c1, kx_ft, kx_aI, kx_aL, kx_aR, kx_ln, Nat.reduceAdd, Option.toList, List.cons_append, List.nil_append]
  repeat (simp only [e1x, c1x, e2x, c2x, e3x, c3x, e4x, c4x, e5x, c5x, h143b, hc0]; try dsimp only [kx_wp, kx_step, kx_lI, kx_lL, kx_lA, kx_gl, kx_pI, kx_pL, kx_pR, kx_pA, kx_pV, kx_s1, kx_s2, kx_sl, kx_pre, kx_c2, kx_pl, kx_cmp, kx_oF, kx_eqN, kx_nil, kx_c1, kx_ft, kx_aI, kx_aL, kx_aR, kx_ln, Nat.reduceAdd, Option.toList, List.cons_append, List.nil_append])
  repeat' apply And.intro
  all_goals try (first | with_reducible assumption | (with_reducible refine ck_nzI ?_; simp; done) | (with_reducible refine ck_nzL ?_; simp; done) | (with_reducible refine vp_in_nI ?_ ?_ <;> first | omega | decide) | (with_reducible refine Nat.le_of_ble_eq_true ?_; rfl) | omega | (unfold vp_in; decide))
  refine hN.1 120 _ _ _ _ _ _ _ 11 _ _ _ _ _ _ _ _ _ _ lL_120 hth.n ⟨by decide, rfl⟩ h93b rfl rfl (Nat.le_of_ble_eq_true rfl) (by omega) (by decide) (by omega) (by omega) dL_law__2308 ?_
  rintro r4 P4 s4 ⟨e6, e7, e8⟩
  rw [e6, e7, e8]
  dsimp only [Option.toList, List.cons_append, List.nil_append]
  refine hB bL_law__2311 _ _ _ _ _ _ _ kL_law__2311 ?_
  dsimp only [bL_law__2311, kx_wp, kx_step, kx_lI, kx_lL, kx_lA, kx_gl, kx_pI, kx_pL, kx_pR, kx_pA, kx_pV, kx_s1, kx_s2, kx_sl, kx_pre, kx_c2, kx_pl, kx_cmp, kx_oF, kx_eqN, kx_nil, kx_c1, kx_ft, kx_aI, kx_aL, kx_aR, kx_ln, Nat.reduceAdd, Option.toList, List.cons_append, List.nil_append]
  repeat (simp only [e1x, c1x, e2x, c2x, e3x, c3x, e4x, c4x, e5x, c5x, h143b, hc0]; try dsimp only [kx_wp, kx_step, kx_lI, kx_lL, kx_lA, kx_gl, kx_pI, kx_pL, kx_pR, kx_pA, kx_pV, kx_s1, kx_s2, kx_sl, kx_pre, kx_c2, kx_pl, kx_cmp, kx_oF, kx_eqN, kx_nil, kx_c1, kx_ft, kx_aI, kx_aL, kx_aR, kx_ln, Nat.reduceAdd, Option.toList, List.cons_append, List.nil_append])
  repeat' apply And.intro
  all_goals try (first | with_reducible assumption | (with_reducible refine ck_nzI ?_; simp; done) | (with_reducible refine ck_nzL ?_; simp; done) | (with_reducible refine vp_in_nI ?_ ?_ <;> first | omega | decide) | (with_reducible refine Nat.le_of_ble_eq_true ?_; rfl) | omega | (unfold vp_in; decide))
  · intro zc2313
    refine hB bL_law__2318 _ _ _ _ _ _ _ kL_law__2318 ?_
    dsimp only [bL_law__2318, kx_wp, kx_step, kx_lI, kx_lL, kx_lA, kx_gl, kx_pI, kx_pL, kx_pR, kx_pA, kx_pV, kx_s1, kx_s2, kx_sl, kx_pre, kx_c2, kx_pl, kx_cmp, kx_oF, kx_eqN, kx_nil, kx_c1, kx_ft, kx_aI, kx_aL, kx_aR, kx_ln, Nat.reduceAdd, Option.toList, List.cons_append, List.nil_append]
    repeat (simp only [e1x, c1x, e2x, c2x, e3x, c3x, e4x, c4x, e5x, c5x, h143b, hc0]; try dsimp only [kx_wp, kx_step, kx_lI, kx_lL, kx_lA, kx_gl, kx_pI, kx_pL, kx_pR, kx_pA, kx_pV, kx_s1, kx_s2, kx_sl, kx_pre, kx_c2, kx_pl, kx_cmp, kx_oF, kx_eqN, kx_nil, kx_c1, kx_ft, kx_aI, kx_aL, kx_aR, kx_ln, Nat.reduceAdd, Option.toList, List.cons_append, List.nil_append])
    repeat' apply And.intro
    all_goals try (first | with_reducible assumption | (with_reducible refine ck_nzI ?_; simp; done) | (with_reducible refine ck_nzL ?_; simp; done) | (with_reducible refine vp_in_nI ?_ ?_ <;> first | omega | decide) | (with_reducible refine Nat.le_of_ble_eq_true ?_; rfl) | omega | (unfold vp_in; decide))
    · intro zc2320
      refine hB bL_law__2335 _ _ _ _ _ _ _ kL_law__2335 ?_
      dsimp only [bL_law__2335, kx_wp, kx_step, kx_lI, kx_lL, kx_lA, kx_gl, kx_pI, kx_pL, kx_pR, kx_pA, kx_pV, kx_s1, kx_s2, kx_sl, kx_pre, kx_c2, kx_pl, kx_cmp, kx_oF, kx_eqN, kx_nil, kx_c1, kx_ft, kx_aI, kx_aL, kx_aR, kx_ln, Nat.reduceAdd, Option.toList, List.cons_append, List.nil_append]
      repeat (simp only [e1x, c1x, e2x, c2x, e3x, c3x, e4x, c4x, e5x, c5x, h143b, hc0]; try dsimp only [kx_wp, kx_step, kx_lI, kx_lL, kx_lA, kx_gl, kx_pI, kx_pL, kx_pR, kx_pA, kx_pV, kx_s1, kx_s2, kx_sl, kx_pre, kx_c2, kx_pl, kx_cmp, kx_oF, kx_eqN, kx_nil, kx_c1, kx_ft, kx_aI, kx_aL, kx_aR, kx_ln, Nat.reduceAdd, Option.toList, List.cons_append, List.nil_append])
      repeat' apply And.intro
      all_goals try (first | with_reducible assumption | (with_reducible refine ck_nzI ?_; simp; done) | (with_reducible refine ck_nzL ?_; simp; done) | (with_reducible refine vp_in_nI ?_ ?_ <;> first | omega | decide) | (with_reducible refine Nat.le_of_ble_eq_true ?_; rfl) | omega | (unfold vp_in; decide))
      exact hgo P3 s2 S2 cl1 mi1 se1 bl1 go2 _ _ _ _ _ hI h34 h143b (by omega) (by omega) (by omega)
    · intro zc2320
      refine hB bL_law__2323 _ _ _ _ _ _ _ kL_law__2323 ?_
      dsimp only [bL_law__2323, kx_wp, kx_step, kx_lI, kx_lL, kx_lA, kx_gl, kx_pI, kx_pL, kx_pR, kx_pA, kx_pV, kx_s1, kx_s2, kx_sl, kx_pre, kx_c2, kx_pl, kx_cmp, kx_oF, kx_eqN, kx_nil, kx_c1, kx_ft, kx_aI, kx_aL, kx_aR, kx_ln, Nat.reduceAdd, Option.toList, List.cons_append, List.nil_append]
      repeat (simp only [e1x, c1x, e2x, c2x, e3x, c3x, e4x, c4x, e5x, c5x, h143b, hc0]; try dsimp only [kx_wp, kx_step, kx_lI, kx_lL, kx_lA, kx_gl, kx_pI, kx_pL, kx_pR, kx_pA, kx_pV, kx_s1, kx_s2, kx_sl, kx_pre, kx_c2, kx_pl, kx_cmp, kx_oF, kx_eqN, kx_nil, kx_c1, kx_ft, kx_aI, kx_aL, kx_aR, kx_ln, Nat.reduceAdd, Option.toList, List.cons_append, List.nil_append])
      repeat' apply And.intro
      all_goals try (first | with_reducible assumption | (with_reducible refine ck_nzI ?_; simp; done) | (with_reducible refine ck_nzL ?_; simp; done) | (with_reducible refine vp_in_nI ?_ ?_ <;> first | omega | decide) | (with_reducible refine Nat.le_of_ble_eq_true ?_; rfl) | omega | (unfold vp_in; decide))
      · intro zc2330
        refine hB bL_law__2335 _ _ _ _ _ _ _ kL_law__2335 ?_
        dsimp only [bL_law__2335, kx_wp, kx_step, kx_lI, kx_lL, kx_lA, kx_gl, kx_pI, kx_pL, kx_pR, kx_pA, kx_pV, kx_s1, kx_s2, kx_sl, kx_pre, kx_c2, kx_pl, kx_cmp, kx_oF, kx_eqN, kx_nil, kx_c1, kx_ft, kx_aI, kx_aL, kx_aR, kx_ln, Nat.reduceAdd, Option.toList, List.cons_append, List.nil_append]
        repeat (simp only [e1x, c1x, e2x, c2x, e3x, c3x, e4x, c4x, e5x, c5x, h143b, hc0]; try dsimp only [kx_wp, kx_step, kx_lI, kx_lL, kx_lA, kx_gl, kx_pI, kx_pL, kx_pR, kx_pA, kx_pV, kx_s1, kx_s2, kx_sl, kx_pre, kx_c2, kx_pl, kx_cmp, kx_oF, kx_eqN, kx_nil, kx_c1, kx_ft, kx_aI, kx_aL, kx_aR, kx_ln, Nat.reduceAdd, Option.toList, List.cons_append, List.nil_append])
        repeat' apply And.intro
        all_goals try (first | with_reducible assumption | (with_reducible refine ck_nzI ?_; simp; done) | (with_reducible refine ck_nzL ?_; simp; done) | (with_reducible refine vp_in_nI ?_ ?_ <;> first | omega | decide) | (with_reducible refine Nat.le_of_ble_eq_true ?_; rfl) | omega | (unfold vp_in; decide))
        exact hgo P3 s2 S2 cl1 mi1 se1 bl1 go2 _ _ _ _ _ hI h34 h143b (by omega) (by omega) (by omega)
      · intro zc2330
        first | exact absurd rfl zc2330 | exact absurd zc2330 (by decide) | exact absurd (by decide) zc2330 | (exfalso; first | exact zc2330 (by rw [hgo0 (Decidable.not_not.mp zc2320)]; exact lg_cmp_s _)) | (exfalso; simp_all; done)
  · intro zc2313
    first | exact absurd rfl zc2313 | exact absurd zc2313 (by decide) | exact absurd (by decide) zc2313 | (exfalso; first | exact zc2330 (by rw [hgo0 (Decidable.not_not.mp zc2320)]; exact lg_cmp_s _)) | (exfalso; simp_all; done)

set_option maxRecDepth 100000 in
set_option maxHeartbeats 4000000 in
theorem cj_foretold (l : Launch) (G : kx_G) (hst : l.stackTraces = false) {P : kx_P} {sz : Nat} {M : Nat → Int32} {A : Nat → Nat → Int32} {L : Nat → Nat → Int64} {cl mi se : Nat} {bl : Nat → Nat} {go : Nat → Int64} {Ln i k n : Nat} {xs : Nat → Int32} {o5 o6 o7 : Option Value} {g : kx_F} (h : cI P sz (M, A, L) cl mi se bl) (h3 : P 3 = kI 5 Ln xs) (h143 : P 143 = kL 1 go) (hi : i + 6 ≤ Ln) (hL : Ln ≤ 3072) (hk : k + 8 ≤ 601024) (hn : n + cro bl + 2206 ≤ 7293033) (hse : se ≤ 999) (hB : kx_rB kxL_L false cL_law_ 601024 7293033 (fun r _ _ => r = some (.int 1)) g) (hN : kx_rN l G RL cL_law_ 60 601024 7293033 g) (hW : kx_rW l G RL cL_law_ 60 601024 7293033 g) (hgo : cAf g Ln xs i se k n bl) : g 2338 [some (.ref 3), some (.ref 64), some (.ref 93), some (.ref 143), some (.int (nI i)), o5, o6, o7] [] P sz k n := by
  have e1x : nI i + 1 = nI (i + 1) := by rw [show (1 : Int32) = nI 1 from rfl, nI_add]
  have c1x : (nI (i + 1)).toNatClampNeg = i + 1 := nI_clamp (by omega)
  have e2x : nI i + 2 = nI (i + 2) := by rw [show (2 : Int32) = nI 2 from rfl, nI_add]
  have c2x : (nI (i + 2)).toNatClampNeg = i + 2 := nI_clamp (by omega)
  have e3x : nI i + 3 = nI (i + 3) := by rw [show (3 : Int32) = nI 3 from rfl, nI_add]
  have c3x : (nI (i + 3)).toNatClampNeg = i + 3 := nI_clamp (by omega)
  have e4x : nI i + 4 = nI (i + 4) := by rw [show (4 : Int32) = nI 4 from rfl, nI_add]
  have c4x : (nI (i + 4)).toNatClampNeg = i + 4 := nI_clamp (by omega)
  have e5x : nI i + 5 = nI (i + 5) := by rw [show (5 : Int32) = nI 5 from rfl, nI_add]
  have c5x : (nI (i + 5)).toNatClampNeg = i + 5 := nI_clamp (by omega)
  have hc0 : (0 : Int32).toNatClampNeg = 0 := rfl
  obtain ⟨f64, h64⟩ := cI_k64 h
  have hs := cs_foretold l G hst h (xs (i + 1)) (xs (i + 2)) (xs (i + 3))
  obtain ⟨k9, dw, dm, mc, ms, cl1, mi1, se1, bl1, Q, q1, q2, q3, q4, q5, hw, hmo⟩ := cSs.s (yw := sL_foretold) (hh := hL_foretold) (Aw := [.ref 64, .int (xs (i + 1)), .int (xs (i + 2)), .int (xs (i + 3)), .ref 143]) h h143 hs (fun d mc ms Po => cw_foretold_t l G h64) (fun p hp => by
    simp only [List.mem_cons, List.not_mem_nil, or_false] at hp
    rcases hp with rfl | rfl | rfl
    · exact ⟨by decide, fun d => cw_foretold_x0 l G h64⟩
    · exact ⟨by decide, fun d => cw_foretold_x1 l G h64⟩
    · exact ⟨by decide, fun d => cw_foretold_x2 l G h64⟩)
  refine hB bL_law__2338 _ _ _ _ _ _ _ kL_law__2338 ?_
  dsimp only [bL_law__2338, kx_wp, kx_step, kx_lI, kx_lL, kx_lA, kx_gl, kx_pI, kx_pL, kx_pR, kx_pA, kx_pV, kx_s1, kx_s2, kx_sl, kx_pre, kx_c2, kx_pl, kx_cmp, kx_oF, kx_eqN, kx_nil, kx_c1, kx_ft, kx_aI, kx_aL, kx_aR, kx_ln, Nat.reduceAdd, Option.toList, List.cons_append, List.nil_append]
  repeat (simp only [e1x, c1x, e2x, c2x, e3x, c3x, e4x, c4x, e5x, c5x, h3]; try dsimp only [kx_wp, kx_step, kx_lI, kx_lL, kx_lA, kx_gl, kx_pI, kx_pL, kx_pR, kx_pA, kx_pV, kx_s1, kx_s2, kx_sl, kx_pre, kx_c2, kx_pl, kx_cmp, kx_oF, kx_eqN, kx_nil, kx_c1, kx_ft, kx_aI, kx_aL, kx_aR, kx_ln, Nat.reduceAdd, Option.toList, List.cons_append, List.nil_append])
  repeat' apply And.intro
  all_goals try (first | with_reducible assumption | (with_reducible refine ck_nzI ?_; simp; done) | (with_reducible refine ck_nzL ?_; simp; done) | (with_reducible refine vp_in_nI ?_ ?_ <;> first | omega | decide) | (with_reducible refine Nat.le_of_ble_eq_true ?_; rfl) | omega | (unfold vp_in; decide))
  refine hW 228 _ _ _ _ _ _ _ _ _ _ _ _ _ _ _ _ lL_228 hw rfl rfl (Nat.le_of_ble_eq_true rfl) (by omega) (by decide) (by omega) (by omega) dL_law__2358 ?_
  rintro r2 P2 s2 ⟨e2, hQ⟩
  rw [e2]
  obtain ⟨⟨fm, h93⟩, h33, hM⟩ := hmo P2 s2 hQ
  have h33 := h33.trans h3
  dsimp only [Option.toList, List.cons_append, List.nil_append]
  refine hB bL_law__2361 _ _ _ _ _ _ _ kL_law__2361 ?_
  dsimp only [bL_law__2361, kx_wp, kx_step, kx_lI, kx_lL, kx_lA, kx_gl, kx_pI, kx_pL, kx_pR, kx_pA, kx_pV, kx_s1, kx_s2, kx_sl, kx_pre, kx_c2, kx_pl, kx_cmp, kx_oF, kx_eqN, kx_nil, kx_c1, kx_ft, kx_aI, kx_aL, kx_aR, kx_ln, Nat.reduceAdd, Option.toList, List.cons_append, List.nil_append]
  repeat (simp only [e1x, c1x, e2x, c2x, e3x, c3x, e4x, c4x, e5x, c5x, h33]; try dsimp only [kx_wp, kx_step, kx_lI, kx_lL, kx_lA, kx_gl, kx_pI, kx_pL, kx_pR, kx_pA, kx_pV, kx_s1, kx_s2, kx_sl, kx_pre, kx_c2, kx_pl, kx_cmp, kx_oF, kx_eqN, kx_nil, kx_c1, kx_ft, kx_aI, kx_aL, kx_aR, kx_ln, Nat.reduceAdd, Option.toList, List.cons_append, List.nil_append])
  repeat' apply And.intro
  all_goals try (first | with_reducible assumption | (with_reducible refine ck_nzI ?_; simp; done) | (with_reducible refine ck_nzL ?_; simp; done) | (with_reducible refine vp_in_nI ?_ ?_ <;> first | omega | decide) | (with_reducible refine Nat.le_of_ble_eq_true ?_; rfl) | omega | (unfold vp_in; decide))
  refine hN.1 230 _ _ _ _ _ _ _ 11 _ _ _ _ _ _ _ _ _ _ lL_230 hM ⟨by decide, rfl⟩ h93 rfl rfl (Nat.le_of_ble_eq_true rfl) (by omega) (by decide) (by omega) (by omega) dL_law__2382 ?_
  rintro r3 P3 s3 ⟨e3, v, S2, go2, e4, hT, hk0, hI, h34, h143b, hgo0⟩
  obtain ⟨b9, e5⟩ := hT.2 (by decide)
  subst e5
  rw [e3, e4]
  have h34 := h34.trans h3
  have h93b := cI_93 hI
  have hth := cI_th l G hI
  rw [hk0] at hth
  dsimp only [Option.toList, List.cons_append, List.nil_append]
  refine hB bL_law__2385 _ _ _ _ _ _ _ kL_law__2385 ?_
  dsimp only [bL_law__2385, kx_wp, kx_step, kx_lI, kx_lL, kx_lA, kx_gl, kx_pI, kx_pL, kx_pR, kx_pA, kx_pV, kx_s1, kx_s2, kx_sl, kx_pre, kx_c2, kx_pl, kx_cmp, kx_oF, kx_eqN, kx_nil, kx_c1, kx_ft, kx_aI, kx_aL, kx_aR, kx_ln, Nat.reduceAdd, Option.toList, List.cons_append, List.nil_append]
  repeat (simp only [e1x, c1x, e2x, c2x, e3x, c3x, e4x, c4x, e5x, c5x, h143b, hc0]; try dsimp only [kx_wp, kx_step, kx_lI, kx_lL, kx_lA, kx_gl, kx_pI, kx_pL, kx_pR, kx_pA, kx_pV, kx_s1, kx_s2, kx_sl, kx_pre, kx_c2, kx_pl, kx_cmp, kx_oF, kx_eqN, kx_nil, kx_c1, kx_ft, kx_aI, kx_aL, kx_aR, kx_ln, Nat.reduceAdd, Option.toList, List.cons_append, List.nil_append])
  repeat' apply And.intro
  all_goals try (first | with_reducible assumption | (with_reducible refine ck_nzI ?_; simp; done) | (with_reducible refine ck_nzL ?_; simp; done) | (with_reducible refine vp_in_nI ?_ ?_ <;> first | omega | decide) | (with_reducible refine Nat.le_of_ble_eq_true ?_; rfl) | omega | (unfold vp_in; decide))
  refine hN.1 120 _ _ _ _ _ _ _ 11 _ _ _ _ _ _ _ _ _ _ lL_120 hth.n ⟨by decide, rfl⟩ h93b rfl rfl (Nat.le_of_ble_eq_true rfl) (by omega) (by decide) (by omega) (by omega) dL_law__2388 ?_
  rintro r4 P4 s4 ⟨e6, e7, e8⟩
  rw [e6, e7, e8]
  dsimp only [Option.toList, List.cons_append, List.nil_append]
  refine hB bL_law__2391 _ _ _ _ _ _ _ kL_law__2391 ?_
  dsimp only [bL_law__2391, kx_wp, kx_step, kx_lI, kx_lL, kx_lA, kx_gl, kx_pI, kx_pL, kx_pR, kx_pA, kx_pV, kx_s1, kx_s2, kx_sl, kx_pre, kx_c2, kx_pl, kx_cmp, kx_oF, kx_eqN, kx_nil, kx_c1, kx_ft, kx_aI, kx_aL, kx_aR, kx_ln, Nat.reduceAdd, Option.toList, List.cons_append, List.nil_append]
  repeat (simp only [e1x, c1x, e2x, c2x, e3x, c3x, e4x, c4x, e5x, c5x, h143b, hc0]; try dsimp only [kx_wp, kx_step, kx_lI, kx_lL, kx_lA, kx_gl, kx_pI, kx_pL, kx_pR, kx_pA, kx_pV, kx_s1, kx_s2, kx_sl, kx_pre, kx_c2, kx_pl, kx_cmp, kx_oF, kx_eqN, kx_nil, kx_c1, kx_ft, kx_aI, kx_aL, kx_aR, kx_ln, Nat.reduceAdd, Option.toList, List.cons_append, List.nil_append])
  repeat' apply And.intro
  all_goals try (first | with_reducible assumption | (with_reducible refine ck_nzI ?_; simp; done) | (with_reducible refine ck_nzL ?_; simp; done) | (with_reducible refine vp_in_nI ?_ ?_ <;> first | omega | decide) | (with_reducible refine Nat.le_of_ble_eq_true ?_; rfl) | omega | (unfold vp_in; decide))
  · intro zc2393
    refine hB bL_law__2398 _ _ _ _ _ _ _ kL_law__2398 ?_
    dsimp only [bL_law__2398, kx_wp, kx_step, kx_lI, kx_lL, kx_lA, kx_gl, kx_pI, kx_pL, kx_pR, kx_pA, kx_pV, kx_s1, kx_s2, kx_sl, kx_pre, kx_c2, kx_pl, kx_cmp, kx_oF, kx_eqN, kx_nil, kx_c1, kx_ft, kx_aI, kx_aL, kx_aR, kx_ln, Nat.reduceAdd, Option.toList, List.cons_append, List.nil_append]
    repeat (simp only [e1x, c1x, e2x, c2x, e3x, c3x, e4x, c4x, e5x, c5x, h143b, hc0]; try dsimp only [kx_wp, kx_step, kx_lI, kx_lL, kx_lA, kx_gl, kx_pI, kx_pL, kx_pR, kx_pA, kx_pV, kx_s1, kx_s2, kx_sl, kx_pre, kx_c2, kx_pl, kx_cmp, kx_oF, kx_eqN, kx_nil, kx_c1, kx_ft, kx_aI, kx_aL, kx_aR, kx_ln, Nat.reduceAdd, Option.toList, List.cons_append, List.nil_append])
    repeat' apply And.intro
    all_goals try (first | with_reducible assumption | (with_reducible refine ck_nzI ?_; simp; done) | (with_reducible refine ck_nzL ?_; simp; done) | (with_reducible refine vp_in_nI ?_ ?_ <;> first | omega | decide) | (with_reducible refine Nat.le_of_ble_eq_true ?_; rfl) | omega | (unfold vp_in; decide))
    · intro zc2400
      refine hB bL_law__2415 _ _ _ _ _ _ _ kL_law__2415 ?_
      dsimp only [bL_law__2415, kx_wp, kx_step, kx_lI, kx_lL, kx_lA, kx_gl, kx_pI, kx_pL, kx_pR, kx_pA, kx_pV, kx_s1, kx_s2, kx_sl, kx_pre, kx_c2, kx_pl, kx_cmp, kx_oF, kx_eqN, kx_nil, kx_c1, kx_ft, kx_aI, kx_aL, kx_aR, kx_ln, Nat.reduceAdd, Option.toList, List.cons_append, List.nil_append]
      repeat (simp only [e1x, c1x, e2x, c2x, e3x, c3x, e4x, c4x, e5x, c5x, h143b, hc0]; try dsimp only [kx_wp, kx_step, kx_lI, kx_lL, kx_lA, kx_gl, kx_pI, kx_pL, kx_pR, kx_pA, kx_pV, kx_s1, kx_s2, kx_sl, kx_pre, kx_c2, kx_pl, kx_cmp, kx_oF, kx_eqN, kx_nil, kx_c1, kx_ft, kx_aI, kx_aL, kx_aR, kx_ln, Nat.reduceAdd, Option.toList, List.cons_append, List.nil_append])
      repeat' apply And.intro
      all_goals try (first | with_reducible assumption | (with_reducible refine ck_nzI ?_; simp; done) | (with_reducible refine ck_nzL ?_; simp; done) | (with_reducible refine vp_in_nI ?_ ?_ <;> first | omega | decide) | (with_reducible refine Nat.le_of_ble_eq_true ?_; rfl) | omega | (unfold vp_in; decide))
      exact hgo P3 s2 S2 cl1 mi1 se1 bl1 go2 _ _ _ _ _ hI h34 h143b (by omega) (by omega) (by omega)
    · intro zc2400
      refine hB bL_law__2403 _ _ _ _ _ _ _ kL_law__2403 ?_
      dsimp only [bL_law__2403, kx_wp, kx_step, kx_lI, kx_lL, kx_lA, kx_gl, kx_pI, kx_pL, kx_pR, kx_pA, kx_pV, kx_s1, kx_s2, kx_sl, kx_pre, kx_c2, kx_pl, kx_cmp, kx_oF, kx_eqN, kx_nil, kx_c1, kx_ft, kx_aI, kx_aL, kx_aR, kx_ln, Nat.reduceAdd, Option.toList, List.cons_append, List.nil_append]
      repeat (simp only [e1x, c1x, e2x, c2x, e3x, c3x, e4x, c4x, e5x, c5x, h143b, hc0]; try dsimp only [kx_wp, kx_step, kx_lI, kx_lL, kx_lA, kx_gl, kx_pI, kx_pL, kx_pR, kx_pA, kx_pV, kx_s1, kx_s2, kx_sl, kx_pre, kx_c2, kx_pl, kx_cmp, kx_oF, kx_eqN, kx_nil, kx_c1, kx_ft, kx_aI, kx_aL, kx_aR, kx_ln, Nat.reduceAdd, Option.toList, List.cons_append, List.nil_append])
      repeat' apply And.intro
      all_goals try (first | with_reducible assumption | (with_reducible refine ck_nzI ?_; simp; done) | (with_reducible refine ck_nzL ?_; simp; done) | (with_reducible refine vp_in_nI ?_ ?_ <;> first | omega | decide) | (with_reducible refine Nat.le_of_ble_eq_true ?_; rfl) | omega | (unfold vp_in; decide))
      · intro zc2410
        refine hB bL_law__2415 _ _ _ _ _ _ _ kL_law__2415 ?_
        dsimp only [bL_law__2415, kx_wp, kx_step, kx_lI, kx_lL, kx_lA, kx_gl, kx_pI, kx_pL, kx_pR, kx_pA, kx_pV, kx_s1, kx_s2, kx_sl, kx_pre, kx_c2, kx_pl, kx_cmp, kx_oF, kx_eqN, kx_nil, kx_c1, kx_ft, kx_aI, kx_aL, kx_aR, kx_ln, Nat.reduceAdd, Option.toList, List.cons_append, List.nil_append]
        repeat (simp only [e1x, c1x, e2x, c2x, e3x, c3x, e4x, c4x, e5x, c5x, h143b, hc0]; try dsimp only [kx_wp, kx_step, kx_lI, kx_lL, kx_lA, kx_gl, kx_pI, kx_pL, kx_pR, kx_pA, kx_pV, kx_s1, kx_s2, kx_sl, kx_pre, kx_c2, kx_pl, kx_cmp, kx_oF, kx_eqN, kx_nil, kx_c1, kx_ft, kx_aI, kx_aL, kx_aR, kx_ln, Nat.reduceAdd, Option.toList, List.cons_append, List.nil_append])
        repeat' apply And.intro
        all_goals try (first | with_reducible assumption | (with_reducible refine ck_nzI ?_; simp; done) | (with_reducible refine ck_nzL ?_; simp; done) | (with_reducible refine vp_in_nI ?_ ?_ <;> first | omega | decide) | (with_reducible refine Nat.le_of_ble_eq_true ?_; rfl) | omega | (unfold vp_in; decide))
        exact hgo P3 s2 S2 cl1 mi1 se1 bl1 go2 _ _ _ _ _ hI h34 h143b (by omega) (by omega) (by omega)
      · intro zc2410
        first | exact absurd rfl zc2410 | exact absurd zc2410 (by decide) | exact absurd (by decide) zc2410 | (exfalso; first | exact zc2410 (by rw [hgo0 (Decidable.not_not.mp zc2400)]; exact lg_cmp_s _)) | (exfalso; simp_all; done)
  · intro zc2393
    first | exact absurd rfl zc2393 | exact absurd zc2393 (by decide) | exact absurd (by decide) zc2393 | (exfalso; first | exact zc2410 (by rw [hgo0 (Decidable.not_not.mp zc2400)]; exact lg_cmp_s _)) | (exfalso; simp_all; done)

set_option maxRecDepth 100000 in
set_option maxHeartbeats 4000000 in
theorem cj_count (l : Launch) (G : kx_G) (hst : l.stackTraces = false) {P : kx_P} {sz : Nat} {M : Nat → Int32} {A : Nat → Nat → Int32} {L : Nat → Nat → Int64} {cl mi se : Nat} {bl : Nat → Nat} {go : Nat → Int64} {Ln i k n : Nat} {xs : Nat → Int32} {o5 o6 o7 : Option Value} {g : kx_F} (h : cI P sz (M, A, L) cl mi se bl) (h3 : P 3 = kI 5 Ln xs) (h143 : P 143 = kL 1 go) (hi : i + 6 ≤ Ln) (hL : Ln ≤ 3072) (hk : k + 8 ≤ 601024) (hn : n + cro bl + 2206 ≤ 7293033) (hse : se ≤ 999) (hB : kx_rB kxL_L false cL_law_ 601024 7293033 (fun r _ _ => r = some (.int 1)) g) (hN : kx_rN l G RL cL_law_ 60 601024 7293033 g) (hW : kx_rW l G RL cL_law_ 60 601024 7293033 g) (hgo : cAf g Ln xs i se k n bl) : g 2418 [some (.ref 3), some (.ref 64), some (.ref 93), some (.ref 143), some (.int (nI i)), o5, o6, o7] [] P sz k n := by
  have e1x : nI i + 1 = nI (i + 1) := by rw [show (1 : Int32) = nI 1 from rfl, nI_add]
  have c1x : (nI (i + 1)).toNatClampNeg = i + 1 := nI_clamp (by omega)
  have e2x : nI i + 2 = nI (i + 2) := by rw [show (2 : Int32) = nI 2 from rfl, nI_add]
  have c2x : (nI (i + 2)).toNatClampNeg = i + 2 := nI_clamp (by omega)
  have e3x : nI i + 3 = nI (i + 3) := by rw [show (3 : Int32) = nI 3 from rfl, nI_add]
  have c3x : (nI (i + 3)).toNatClampNeg = i + 3 := nI_clamp (by omega)
  have e4x : nI i + 4 = nI (i + 4) := by rw [show (4 : Int32) = nI 4 from rfl, nI_add]
  have c4x : (nI (i + 4)).toNatClampNeg = i + 4 := nI_clamp (by omega)
  have e5x : nI i + 5 = nI (i + 5) := by rw [show (5 : Int32) = nI 5 from rfl, nI_add]
  have c5x : (nI (i + 5)).toNatClampNeg = i + 5 := nI_clamp (by omega)
  have hc0 : (0 : Int32).toNatClampNeg = 0 := rfl
  obtain ⟨f64, h64⟩ := cI_k64 h
  have hs := cs_count l G h (xs (i + 1))
  obtain ⟨v, dc, dm, mc, ms, cl1, mi1, se1, bl1, Q, q1, q2, q3, q4, q5, hT, hw, hmo⟩ := hs.d h h143
  obtain ⟨b9, e9⟩ := hT.2 (by decide)
  subst e9
  refine hB bL_law__2418 _ _ _ _ _ _ _ kL_law__2418 ?_
  dsimp only [bL_law__2418, kx_wp, kx_step, kx_lI, kx_lL, kx_lA, kx_gl, kx_pI, kx_pL, kx_pR, kx_pA, kx_pV, kx_s1, kx_s2, kx_sl, kx_pre, kx_c2, kx_pl, kx_cmp, kx_oF, kx_eqN, kx_nil, kx_c1, kx_ft, kx_aI, kx_aL, kx_aR, kx_ln, Nat.reduceAdd, Option.toList, List.cons_append, List.nil_append]
  repeat (simp only [e1x, c1x, e2x, c2x, e3x, c3x, e4x, c4x, e5x, c5x, h3]; try dsimp only [kx_wp, kx_step, kx_lI, kx_lL, kx_lA, kx_gl, kx_pI, kx_pL, kx_pR, kx_pA, kx_pV, kx_s1, kx_s2, kx_sl, kx_pre, kx_c2, kx_pl, kx_cmp, kx_oF, kx_eqN, kx_nil, kx_c1, kx_ft, kx_aI, kx_aL, kx_aR, kx_ln, Nat.reduceAdd, Option.toList, List.cons_append, List.nil_append])
  repeat' apply And.intro
  all_goals try (first | with_reducible assumption | (with_reducible refine ck_nzI ?_; simp; done) | (with_reducible refine ck_nzL ?_; simp; done) | (with_reducible refine vp_in_nI ?_ ?_ <;> first | omega | decide) | (with_reducible refine Nat.le_of_ble_eq_true ?_; rfl) | omega | (unfold vp_in; decide))
  refine hN.1 231 _ _ _ _ _ _ _ 10 _ _ _ _ _ _ _ _ _ _ lL_231 hw ⟨by decide, rfl⟩ h64 rfl rfl (Nat.le_of_ble_eq_true rfl) (by omega) (by decide) (by omega) (by omega) dL_law__2425 ?_
  rintro r2 P2 s2 ⟨e2, hQ⟩
  rw [e2]
  obtain ⟨⟨fm, h93⟩, h33, hM⟩ := hmo P2 s2 hQ
  have h33 := h33.trans h3
  dsimp only [Option.toList, List.cons_append, List.nil_append]
  refine hB bL_law__2428 _ _ _ _ _ _ _ kL_law__2428 ?_
  dsimp only [bL_law__2428, kx_wp, kx_step, kx_lI, kx_lL, kx_lA, kx_gl, kx_pI, kx_pL, kx_pR, kx_pA, kx_pV, kx_s1, kx_s2, kx_sl, kx_pre, kx_c2, kx_pl, kx_cmp, kx_oF, kx_eqN, kx_nil, kx_c1, kx_ft, kx_aI, kx_aL, kx_aR, kx_ln, Nat.reduceAdd, Option.toList, List.cons_append, List.nil_append]
  repeat (simp only [e1x, c1x, e2x, c2x, e3x, c3x, e4x, c4x, e5x, c5x, h33]; try dsimp only [kx_wp, kx_step, kx_lI, kx_lL, kx_lA, kx_gl, kx_pI, kx_pL, kx_pR, kx_pA, kx_pV, kx_s1, kx_s2, kx_sl, kx_pre, kx_c2, kx_pl, kx_cmp, kx_oF, kx_eqN, kx_nil, kx_c1, kx_ft, kx_aI, kx_aL, kx_aR, kx_ln, Nat.reduceAdd, Option.toList, List.cons_append, List.nil_append])
  repeat' apply And.intro
  all_goals try (first | with_reducible assumption | (with_reducible refine ck_nzI ?_; simp; done) | (with_reducible refine ck_nzL ?_; simp; done) | (with_reducible refine vp_in_nI ?_ ?_ <;> first | omega | decide) | (with_reducible refine Nat.le_of_ble_eq_true ?_; rfl) | omega | (unfold vp_in; decide))
  refine hN.1 234 _ _ _ _ _ _ _ 11 _ _ _ _ _ _ _ _ _ _ lL_234 hM ⟨by decide, rfl⟩ h93 rfl rfl (Nat.le_of_ble_eq_true rfl) (by omega) (by decide) (by omega) (by omega) dL_law__2435 ?_
  rintro r3 P3 s3 ⟨e3, e4, S2, go2, hI, h34, h143b⟩
  rw [e3, e4]
  have h34 := h34.trans h3
  dsimp only [Option.toList, List.cons_append, List.nil_append]
  refine hB bL_law__2438 _ _ _ _ _ _ _ kL_law__2438 ?_
  dsimp only [bL_law__2438, kx_wp, kx_step, kx_lI, kx_lL, kx_lA, kx_gl, kx_pI, kx_pL, kx_pR, kx_pA, kx_pV, kx_s1, kx_s2, kx_sl, kx_pre, kx_c2, kx_pl, kx_cmp, kx_oF, kx_eqN, kx_nil, kx_c1, kx_ft, kx_aI, kx_aL, kx_aR, kx_ln, Nat.reduceAdd, Option.toList, List.cons_append, List.nil_append]
  repeat (simp only [e1x, c1x, e2x, c2x, e3x, c3x, e4x, c4x, e5x, c5x, h143b, hc0]; try dsimp only [kx_wp, kx_step, kx_lI, kx_lL, kx_lA, kx_gl, kx_pI, kx_pL, kx_pR, kx_pA, kx_pV, kx_s1, kx_s2, kx_sl, kx_pre, kx_c2, kx_pl, kx_cmp, kx_oF, kx_eqN, kx_nil, kx_c1, kx_ft, kx_aI, kx_aL, kx_aR, kx_ln, Nat.reduceAdd, Option.toList, List.cons_append, List.nil_append])
  repeat' apply And.intro
  all_goals try (first | with_reducible assumption | (with_reducible refine ck_nzI ?_; simp; done) | (with_reducible refine ck_nzL ?_; simp; done) | (with_reducible refine vp_in_nI ?_ ?_ <;> first | omega | decide) | (with_reducible refine Nat.le_of_ble_eq_true ?_; rfl) | omega | (unfold vp_in; decide))
  · intro zc2438
    exact hgo P3 s2 S2 cl1 mi1 se1 bl1 go2 _ _ _ _ _ hI h34 h143b (by omega) (by omega) (by omega)
  · intro zc2438
    first | exact absurd rfl zc2438 | exact absurd zc2438 (by decide) | exact absurd (by decide) zc2438 | (exfalso; simp_all; done) | (exfalso; simp_all; done)


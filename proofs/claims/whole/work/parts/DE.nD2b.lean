/-! printed by wip/whole/nD2.py: the law's cases -/
set_option maxRecDepth 100000 in
set_option maxHeartbeats 4000000 in
theorem cj_warmth (l : Launch) (G : kx_G) (hst : l.stackTraces = false) {P : kx_P} {sz : Nat} {M : Nat → Int32} {A : Nat → Nat → Int32} {L : Nat → Nat → Int64} {cl mi se : Nat} {bl : Nat → Nat} {go : Nat → Int64} {Ln i k n : Nat} {xs : Nat → Int32} {o5 o6 o7 : Option Value} {g : kx_F} (h : cI P sz (M, A, L) cl mi se bl) (h3 : P 3 = kI 5 Ln xs) (h143 : P 143 = kL 1 go) (hi : i + 6 ≤ Ln) (hL : Ln ≤ 3072) (hk : k + 8 ≤ 601024) (hn : n + cro bl + 2206 ≤ 7293033) (hse : se ≤ 999) (hB : kx_rB kxL_L false cL_law_ 601024 7293033 (fun r _ _ => r = some (.int 1)) g) (hN : kx_rN l G RL cL_law_ 60 601024 7293033 g) (hW : kx_rW l G RL cL_law_ 60 601024 7293033 g) (hgo : cAf g Ln xs i se k n bl) : g 192 [some (.ref 3), some (.ref 64), some (.ref 93), some (.ref 143), some (.int (nI i)), o5, o6, o7] [] P sz k n := by
  have e1x : nI i + 1 = nI (i + 1) := by rw [show (1 : Int32) = nI 1 from rfl, nI_add]
  have c1x : (nI (i + 1)).toNatClampNeg = i + 1 := nI_clamp (by omega)
  have e2x : nI i + 2 = nI (i + 2) := by rw [show (2 : Int32) = nI 2 from rfl, nI_add]
  have c2x : (nI (i + 2)).toNatClampNeg = i + 2 := nI_clamp (by omega)
  have e3x : nI i + 3 = nI (i + 3) := by rw [show (3 : Int32) = nI 3 from rfl, nI_add]
  have c3x : (nI (i + 3)).toNatClampNeg = i + 3 := nI_clamp (by omega)
  have e4x : nI i + 4 = nI (i + 4) := by rw [show (4 : Int32) = nI 4 from rfl, nI_add]
  have c4x : (nI (i + 4)).toNatClampNeg = i + 4 := nI_clamp (by omega)
  have e5x : nI i + 5 = nI (i + 5) := by rw [show (5 : Int32) = nI 5 from rfl, nI_add]
  have c5x : (nI (i + 5)).toNatClampNeg = i + 5 := nI_clamp (by omega)
  have hc0 : (0 : Int32).toNatClampNeg = 0 := rfl
  obtain ⟨f64, h64⟩ := cI_k64 h
  have hs := cs_warmth l G hst h (xs (i + 1))
  obtain ⟨k9, dw, dm, mc, ms, cl1, mi1, se1, bl1, Q, q1, q2, q3, q4, q5, hw, hmo⟩ := cSs.s (yw := sL_warmth) (hh := hL_warmth) (Aw := [.ref 64, .int (xs (i + 1)), .ref 143]) h h143 hs (fun d mc ms Po => cw_warmth_t l G h64) (fun p hp => by
    simp only [List.mem_cons, List.not_mem_nil, or_false] at hp
    rcases hp with rfl
    · exact ⟨by decide, fun d => cw_warmth_x0 l G h64⟩)
  refine hB bL_law__192 _ _ _ _ _ _ _ kL_law__192 ?_
  dsimp only [bL_law__192, kx_wp, kx_step, kx_lI, kx_lL, kx_lA, kx_gl, kx_pI, kx_pL, kx_pR, kx_pA, kx_pV, kx_s1, kx_s2, kx_sl, kx_pre, kx_c2, kx_pl, kx_cmp, kx_oF, kx_eqN, kx_nil, kx_c1, kx_ft, kx_aI, kx_aL, kx_aR, kx_ln, Nat.reduceAdd, Option.toList, List.cons_append, List.nil_append]
  repeat (simp only [e1x, c1x, e2x, c2x, e3x, c3x, e4x, c4x, e5x, c5x, h3]; try dsimp only [kx_wp, kx_step, kx_lI, kx_lL, kx_lA, kx_gl, kx_pI, kx_pL, kx_pR, kx_pA, kx_pV, kx_s1, kx_s2, kx_sl, kx_pre, kx_c2, kx_pl, kx_cmp, kx_oF, kx_eqN, kx_nil, kx_c1, kx_ft, kx_aI, kx_aL, kx_aR, kx_ln, Nat.reduceAdd, Option.toList, List.cons_append, List.nil_append])
  repeat' apply And.intro
  all_goals try (first | with_reducible assumption | (with_reducible refine ck_nzI ?_; simp; done) | (with_reducible refine ck_nzL ?_; simp; done) | (with_reducible refine vp_in_nI ?_ ?_ <;> first | omega | decide) | (with_reducible refine Nat.le_of_ble_eq_true ?_; rfl) | omega | (unfold vp_in; decide))
  refine hW 114 _ _ _ _ _ _ _ _ _ _ _ _ _ _ _ _ lL_114 hw rfl rfl (Nat.le_of_ble_eq_true rfl) (by omega) (by decide) (by omega) (by omega) dL_law__200 ?_
  rintro r2 P2 s2 ⟨e2, hQ⟩
  rw [e2]
  obtain ⟨⟨fm, h93⟩, h33, hM⟩ := hmo P2 s2 hQ
  have h33 := h33.trans h3
  dsimp only [Option.toList, List.cons_append, List.nil_append]
  refine hB bL_law__203 _ _ _ _ _ _ _ kL_law__203 ?_
  dsimp only [bL_law__203, kx_wp, kx_step, kx_lI, kx_lL, kx_lA, kx_gl, kx_pI, kx_pL, kx_pR, kx_pA, kx_pV, kx_s1, kx_s2, kx_sl, kx_pre, kx_c2, kx_pl, kx_cmp, kx_oF, kx_eqN, kx_nil, kx_c1, kx_ft, kx_aI, kx_aL, kx_aR, kx_ln, Nat.reduceAdd, Option.toList, List.cons_append, List.nil_append]
  repeat (simp only [e1x, c1x, e2x, c2x, e3x, c3x, e4x, c4x, e5x, c5x, h33]; try dsimp only [kx_wp, kx_step, kx_lI, kx_lL, kx_lA, kx_gl, kx_pI, kx_pL, kx_pR, kx_pA, kx_pV, kx_s1, kx_s2, kx_sl, kx_pre, kx_c2, kx_pl, kx_cmp, kx_oF, kx_eqN, kx_nil, kx_c1, kx_ft, kx_aI, kx_aL, kx_aR, kx_ln, Nat.reduceAdd, Option.toList, List.cons_append, List.nil_append])
  repeat' apply And.intro
  all_goals try (first | with_reducible assumption | (with_reducible refine ck_nzI ?_; simp; done) | (with_reducible refine ck_nzL ?_; simp; done) | (with_reducible refine vp_in_nI ?_ ?_ <;> first | omega | decide) | (with_reducible refine Nat.le_of_ble_eq_true ?_; rfl) | omega | (unfold vp_in; decide))
  refine hN.1 119 _ _ _ _ _ _ _ 11 _ _ _ _ _ _ _ _ _ _ lL_119 hM ⟨by decide, rfl⟩ h93 rfl rfl (Nat.le_of_ble_eq_true rfl) (by omega) (by decide) (by omega) (by omega) dL_law__212 ?_
  rintro r3 P3 s3 ⟨e3, v, S2, go2, e4, hT, hk0, hI, h34, h143b, hgo0⟩
  obtain ⟨b9, e5⟩ := hT.2 (by decide)
  subst e5
  rw [e3, e4]
  have h34 := h34.trans h3
  have h93b := cI_93 hI
  have hth := cI_th l G hI
  rw [hk0] at hth
  dsimp only [Option.toList, List.cons_append, List.nil_append]
  refine hB bL_law__215 _ _ _ _ _ _ _ kL_law__215 ?_
  dsimp only [bL_law__215, kx_wp, kx_step, kx_lI, kx_lL, kx_lA, kx_gl, kx_pI, kx_pL, kx_pR, kx_pA, kx_pV, kx_s1, kx_s2, kx_sl, kx_pre, kx_c2, kx_pl, kx_cmp, kx_oF, kx_eqN, kx_nil, kx_c1, kx_ft, kx_aI, kx_aL, kx_aR, kx_ln, Nat.reduceAdd, Option.toList, List.cons_append, List.nil_append]
  repeat (simp only [e1x, c1x, e2x, c2x, e3x, c3x, e4x, c4x, e5x, c5x, h143b, hc0]; try dsimp only [kx_wp, kx_step, kx_lI, kx_lL, kx_lA, kx_gl, kx_pI, kx_pL, kx_pR, kx_pA, kx_pV, kx_s1, kx_s2, kx_sl, kx_pre, kx_c2, kx_pl, kx_cmp, kx_oF, kx_eqN, kx_nil, kx_c1, kx_ft, kx_aI, kx_aL, kx_aR, kx_ln, Nat.reduceAdd, Option.toList, List.cons_append, List.nil_append])
  repeat' apply And.intro
  all_goals try (first | with_reducible assumption | (with_reducible refine ck_nzI ?_; simp; done) | (with_reducible refine ck_nzL ?_; simp; done) | (with_reducible refine vp_in_nI ?_ ?_ <;> first | omega | decide) | (with_reducible refine Nat.le_of_ble_eq_true ?_; rfl) | omega | (unfold vp_in; decide))
  refine hN.1 120 _ _ _ _ _ _ _ 11 _ _ _ _ _ _ _ _ _ _ lL_120 hth.n ⟨by decide, rfl⟩ h93b rfl rfl (Nat.le_of_ble_eq_true rfl) (by omega) (by decide) (by omega) (by omega) dL_law__218 ?_
  rintro r4 P4 s4 ⟨e6, e7, e8⟩
  rw [e6, e7, e8]
  dsimp only [Option.toList, List.cons_append, List.nil_append]
  refine hB bL_law__221 _ _ _ _ _ _ _ kL_law__221 ?_
  dsimp only [bL_law__221, kx_wp, kx_step, kx_lI, kx_lL, kx_lA, kx_gl, kx_pI, kx_pL, kx_pR, kx_pA, kx_pV, kx_s1, kx_s2, kx_sl, kx_pre, kx_c2, kx_pl, kx_cmp, kx_oF, kx_eqN, kx_nil, kx_c1, kx_ft, kx_aI, kx_aL, kx_aR, kx_ln, Nat.reduceAdd, Option.toList, List.cons_append, List.nil_append]
  repeat (simp only [e1x, c1x, e2x, c2x, e3x, c3x, e4x, c4x, e5x, c5x, h143b, hc0]; try dsimp only [kx_wp, kx_step, kx_lI, kx_lL, kx_lA, kx_gl, kx_pI, kx_pL, kx_pR, kx_pA, kx_pV, kx_s1, kx_s2, kx_sl, kx_pre, kx_c2, kx_pl, kx_cmp, kx_oF, kx_eqN, kx_nil, kx_c1, kx_ft, kx_aI, kx_aL, kx_aR, kx_ln, Nat.reduceAdd, Option.toList, List.cons_append, List.nil_append])
  repeat' apply And.intro
  all_goals try (first | with_reducible assumption | (with_reducible refine ck_nzI ?_; simp; done) | (with_reducible refine ck_nzL ?_; simp; done) | (with_reducible refine vp_in_nI ?_ ?_ <;> first | omega | decide) | (with_reducible refine Nat.le_of_ble_eq_true ?_; rfl) | omega | (unfold vp_in; decide))
  · intro zc223
    refine hB bL_law__228 _ _ _ _ _ _ _ kL_law__228 ?_
    dsimp only [bL_law__228, kx_wp, kx_step, kx_lI, kx_lL, kx_lA, kx_gl, kx_pI, kx_pL, kx_pR, kx_pA, kx_pV, kx_s1, kx_s2, kx_sl, kx_pre, kx_c2, kx_pl, kx_cmp, kx_oF, kx_eqN, kx_nil, kx_c1, kx_ft, kx_aI, kx_aL, kx_aR, kx_ln, Nat.reduceAdd, Option.toList, List.cons_append, List.nil_append]
    repeat (simp only [e1x, c1x, e2x, c2x, e3x, c3x, e4x, c4x, e5x, c5x, h143b, hc0]; try dsimp only [kx_wp, kx_step, kx_lI, kx_lL, kx_lA, kx_gl, kx_pI, kx_pL, kx_pR, kx_pA, kx_pV, kx_s1, kx_s2, kx_sl, kx_pre, kx_c2, kx_pl, kx_cmp, kx_oF, kx_eqN, kx_nil, kx_c1, kx_ft, kx_aI, kx_aL, kx_aR, kx_ln, Nat.reduceAdd, Option.toList, List.cons_append, List.nil_append])
    repeat' apply And.intro
    all_goals try (first | with_reducible assumption | (with_reducible refine ck_nzI ?_; simp; done) | (with_reducible refine ck_nzL ?_; simp; done) | (with_reducible refine vp_in_nI ?_ ?_ <;> first | omega | decide) | (with_reducible refine Nat.le_of_ble_eq_true ?_; rfl) | omega | (unfold vp_in; decide))
    · intro zc230
      refine hB bL_law__245 _ _ _ _ _ _ _ kL_law__245 ?_
      dsimp only [bL_law__245, kx_wp, kx_step, kx_lI, kx_lL, kx_lA, kx_gl, kx_pI, kx_pL, kx_pR, kx_pA, kx_pV, kx_s1, kx_s2, kx_sl, kx_pre, kx_c2, kx_pl, kx_cmp, kx_oF, kx_eqN, kx_nil, kx_c1, kx_ft, kx_aI, kx_aL, kx_aR, kx_ln, Nat.reduceAdd, Option.toList, List.cons_append, List.nil_append]
      repeat (simp only [e1x, c1x, e2x, c2x, e3x, c3x, e4x, c4x, e5x, c5x, h143b, hc0]; try dsimp only [kx_wp, kx_step, kx_lI, kx_lL, kx_lA, kx_gl, kx_pI, kx_pL, kx_pR, kx_pA, kx_pV, kx_s1, kx_s2, kx_sl, kx_pre, kx_c2, kx_pl, kx_cmp, kx_oF, kx_eqN, kx_nil, kx_c1, kx_ft, kx_aI, kx_aL, kx_aR, kx_ln, Nat.reduceAdd, Option.toList, List.cons_append, List.nil_append])
      repeat' apply And.intro
      all_goals try (first | with_reducible assumption | (with_reducible refine ck_nzI ?_; simp; done) | (with_reducible refine ck_nzL ?_; simp; done) | (with_reducible refine vp_in_nI ?_ ?_ <;> first | omega | decide) | (with_reducible refine Nat.le_of_ble_eq_true ?_; rfl) | omega | (unfold vp_in; decide))
      exact hgo P3 s2 S2 cl1 mi1 se1 bl1 go2 _ _ _ _ _ hI h34 h143b (by omega) (by omega) (by omega)
    · intro zc230
      refine hB bL_law__233 _ _ _ _ _ _ _ kL_law__233 ?_
      dsimp only [bL_law__233, kx_wp, kx_step, kx_lI, kx_lL, kx_lA, kx_gl, kx_pI, kx_pL, kx_pR, kx_pA, kx_pV, kx_s1, kx_s2, kx_sl, kx_pre, kx_c2, kx_pl, kx_cmp, kx_oF, kx_eqN, kx_nil, kx_c1, kx_ft, kx_aI, kx_aL, kx_aR, kx_ln, Nat.reduceAdd, Option.toList, List.cons_append, List.nil_append]
      repeat (simp only [e1x, c1x, e2x, c2x, e3x, c3x, e4x, c4x, e5x, c5x, h143b, hc0]; try dsimp only [kx_wp, kx_step, kx_lI, kx_lL, kx_lA, kx_gl, kx_pI, kx_pL, kx_pR, kx_pA, kx_pV, kx_s1, kx_s2, kx_sl, kx_pre, kx_c2, kx_pl, kx_cmp, kx_oF, kx_eqN, kx_nil, kx_c1, kx_ft, kx_aI, kx_aL, kx_aR, kx_ln, Nat.reduceAdd, Option.toList, List.cons_append, List.nil_append])
      repeat' apply And.intro
      all_goals try (first | with_reducible assumption | (with_reducible refine ck_nzI ?_; simp; done) | (with_reducible refine ck_nzL ?_; simp; done) | (with_reducible refine vp_in_nI ?_ ?_ <;> first | omega | decide) | (with_reducible refine Nat.le_of_ble_eq_true ?_; rfl) | omega | (unfold vp_in; decide))
      · intro zc240
        refine hB bL_law__245 _ _ _ _ _ _ _ kL_law__245 ?_
        dsimp only [bL_law__245, kx_wp, kx_step, kx_lI, kx_lL, kx_lA, kx_gl, kx_pI, kx_pL, kx_pR, kx_pA, kx_pV, kx_s1, kx_s2, kx_sl, kx_pre, kx_c2, kx_pl, kx_cmp, kx_oF, kx_eqN, kx_nil, kx_c1, kx_ft, kx_aI, kx_aL, kx_aR, kx_ln, Nat.reduceAdd, Option.toList, List.cons_append, List.nil_append]
        repeat (simp only [e1x, c1x, e2x, c2x, e3x, c3x, e4x, c4x, e5x, c5x, h143b, hc0]; try dsimp only [kx_wp, kx_step, kx_lI, kx_lL, kx_lA, kx_gl, kx_pI, kx_pL, kx_pR, kx_pA, kx_pV, kx_s1, kx_s2, kx_sl, kx_pre, kx_c2, kx_pl, kx_cmp, kx_oF, kx_eqN, kx_nil, kx_c1, kx_ft, kx_aI, kx_aL, kx_aR, kx_ln, Nat.reduceAdd, Option.toList, List.cons_append, List.nil_append])
        repeat' apply And.intro
        all_goals try (first | with_reducible assumption | (with_reducible refine ck_nzI ?_; simp; done) | (with_reducible refine ck_nzL ?_; simp; done) | (with_reducible refine vp_in_nI ?_ ?_ <;> first | omega | decide) | (with_reducible refine Nat.le_of_ble_eq_true ?_; rfl) | omega | (unfold vp_in; decide))
        exact hgo P3 s2 S2 cl1 mi1 se1 bl1 go2 _ _ _ _ _ hI h34 h143b (by omega) (by omega) (by omega)
      · intro zc240
        first | exact absurd rfl zc240 | exact absurd zc240 (by decide) | exact absurd (by decide) zc240 | (exfalso; first | exact zc240 (by rw [hgo0 (Decidable.not_not.mp zc230)]; exact lg_cmp_s _)) | (exfalso; simp_all; done)
  · intro zc223
    first | exact absurd rfl zc223 | exact absurd zc223 (by decide) | exact absurd (by decide) zc223 | (exfalso; first | exact zc240 (by rw [hgo0 (Decidable.not_not.mp zc230)]; exact lg_cmp_s _)) | (exfalso; simp_all; done)

set_option maxRecDepth 100000 in
set_option maxHeartbeats 4000000 in
theorem cj_leap_0 (l : Launch) (G : kx_G) (hst : l.stackTraces = false) {P : kx_P} {sz : Nat} {M : Nat → Int32} {A : Nat → Nat → Int32} {L : Nat → Nat → Int64} {cl mi se : Nat} {bl : Nat → Nat} {go : Nat → Int64} {Ln i k n : Nat} {xs : Nat → Int32} {o5 o6 o7 : Option Value} {g : kx_F} (h : cI P sz (M, A, L) cl mi se bl) (h3 : P 3 = kI 5 Ln xs) (h143 : P 143 = kL 1 go) (hi : i + 6 ≤ Ln) (hL : Ln ≤ 3072) (hk : k + 8 ≤ 601024) (hn : n + cro bl + 2206 ≤ 7293033) (hse : se ≤ 999) (hb : xs (i + 1) = 0) (hB : kx_rB kxL_L false cL_law_ 601024 7293033 (fun r _ _ => r = some (.int 1)) g) (hN : kx_rN l G RL cL_law_ 60 601024 7293033 g) (hW : kx_rW l G RL cL_law_ 60 601024 7293033 g) (hgo : cAf g Ln xs i se k n bl) : g 248 [some (.ref 3), some (.ref 64), some (.ref 93), some (.ref 143), some (.int (nI i)), o5, o6, o7] [] P sz k n := by
  have e1x : nI i + 1 = nI (i + 1) := by rw [show (1 : Int32) = nI 1 from rfl, nI_add]
  have c1x : (nI (i + 1)).toNatClampNeg = i + 1 := nI_clamp (by omega)
  have e2x : nI i + 2 = nI (i + 2) := by rw [show (2 : Int32) = nI 2 from rfl, nI_add]
  have c2x : (nI (i + 2)).toNatClampNeg = i + 2 := nI_clamp (by omega)
  have e3x : nI i + 3 = nI (i + 3) := by rw [show (3 : Int32) = nI 3 from rfl, nI_add]
  have c3x : (nI (i + 3)).toNatClampNeg = i + 3 := nI_clamp (by omega)
  have e4x : nI i + 4 = nI (i + 4) := by rw [show (4 : Int32) = nI 4 from rfl, nI_add]
  have c4x : (nI (i + 4)).toNatClampNeg = i + 4 := nI_clamp (by omega)
  have e5x : nI i + 5 = nI (i + 5) := by rw [show (5 : Int32) = nI 5 from rfl, nI_add]
  have c5x : (nI (i + 5)).toNatClampNeg = i + 5 := nI_clamp (by omega)
  have hc0 : (0 : Int32).toNatClampNeg = 0 := rfl
  obtain ⟨f64, h64⟩ := cI_k64 h
  have hs := cs_leap l G h 0 (by decide)
  obtain ⟨v, dc, dm, mc, ms, cl1, mi1, se1, bl1, Q, q1, q2, q3, q4, q5, hT, hw, hmo⟩ := hs.n.d h h143
  obtain ⟨b9, e9⟩ := hT.2 (by decide)
  subst e9
  refine hB bL_law__248 _ _ _ _ _ _ _ kL_law__248 ?_
  dsimp only [bL_law__248, kx_wp, kx_step, kx_lI, kx_lL, kx_lA, kx_gl, kx_pI, kx_pL, kx_pR, kx_pA, kx_pV, kx_s1, kx_s2, kx_sl, kx_pre, kx_c2, kx_pl, kx_cmp, kx_oF, kx_eqN, kx_nil, kx_c1, kx_ft, kx_aI, kx_aL, kx_aR, kx_ln, Nat.reduceAdd, Option.toList, List.cons_append, List.nil_append]
  repeat (simp only [e1x, c1x, e2x, c2x, e3x, c3x, e4x, c4x, e5x, c5x, h3]; try dsimp only [kx_wp, kx_step, kx_lI, kx_lL, kx_lA, kx_gl, kx_pI, kx_pL, kx_pR, kx_pA, kx_pV, kx_s1, kx_s2, kx_sl, kx_pre, kx_c2, kx_pl, kx_cmp, kx_oF, kx_eqN, kx_nil, kx_c1, kx_ft, kx_aI, kx_aL, kx_aR, kx_ln, Nat.reduceAdd, Option.toList, List.cons_append, List.nil_append])
  repeat' apply And.intro
  all_goals try (first | with_reducible assumption | (with_reducible refine ck_nzI ?_; simp; done) | (with_reducible refine ck_nzL ?_; simp; done) | (with_reducible refine vp_in_nI ?_ ?_ <;> first | omega | decide) | (with_reducible refine Nat.le_of_ble_eq_true ?_; rfl) | omega | (unfold vp_in; decide))
  · intro zc255
    refine hB bL_law__262 _ _ _ _ _ _ _ kL_law__262 ?_
    dsimp only [bL_law__262, kx_wp, kx_step, kx_lI, kx_lL, kx_lA, kx_gl, kx_pI, kx_pL, kx_pR, kx_pA, kx_pV, kx_s1, kx_s2, kx_sl, kx_pre, kx_c2, kx_pl, kx_cmp, kx_oF, kx_eqN, kx_nil, kx_c1, kx_ft, kx_aI, kx_aL, kx_aR, kx_ln, Nat.reduceAdd, Option.toList, List.cons_append, List.nil_append]
    repeat (simp only [e1x, c1x, e2x, c2x, e3x, c3x, e4x, c4x, e5x, c5x, h3]; try dsimp only [kx_wp, kx_step, kx_lI, kx_lL, kx_lA, kx_gl, kx_pI, kx_pL, kx_pR, kx_pA, kx_pV, kx_s1, kx_s2, kx_sl, kx_pre, kx_c2, kx_pl, kx_cmp, kx_oF, kx_eqN, kx_nil, kx_c1, kx_ft, kx_aI, kx_aL, kx_aR, kx_ln, Nat.reduceAdd, Option.toList, List.cons_append, List.nil_append])
    repeat' apply And.intro
    all_goals try (first | with_reducible assumption | (with_reducible refine ck_nzI ?_; simp; done) | (with_reducible refine ck_nzL ?_; simp; done) | (with_reducible refine vp_in_nI ?_ ?_ <;> first | omega | decide) | (with_reducible refine Nat.le_of_ble_eq_true ?_; rfl) | omega | (unfold vp_in; decide))
    refine hN.1 124 _ _ _ _ _ _ _ 10 _ _ _ _ _ _ _ _ _ _ lL_124 hw ⟨by decide, rfl⟩ h64 rfl rfl (Nat.le_of_ble_eq_true rfl) (by omega) (by decide) (by omega) (by omega) dL_law__263 ?_
    rintro r2 P2 s2 ⟨e2, hQ⟩
    rw [e2]
    obtain ⟨⟨fm, h93⟩, h33, hM⟩ := hmo P2 s2 hQ
    have h33 := h33.trans h3
    dsimp only [Option.toList, List.cons_append, List.nil_append]
    refine hB bL_law__266 _ _ _ _ _ _ _ kL_law__266 ?_
    dsimp only [bL_law__266, kx_wp, kx_step, kx_lI, kx_lL, kx_lA, kx_gl, kx_pI, kx_pL, kx_pR, kx_pA, kx_pV, kx_s1, kx_s2, kx_sl, kx_pre, kx_c2, kx_pl, kx_cmp, kx_oF, kx_eqN, kx_nil, kx_c1, kx_ft, kx_aI, kx_aL, kx_aR, kx_ln, Nat.reduceAdd, Option.toList, List.cons_append, List.nil_append]
    repeat (simp only [e1x, c1x, e2x, c2x, e3x, c3x, e4x, c4x, e5x, c5x, h33]; try dsimp only [kx_wp, kx_step, kx_lI, kx_lL, kx_lA, kx_gl, kx_pI, kx_pL, kx_pR, kx_pA, kx_pV, kx_s1, kx_s2, kx_sl, kx_pre, kx_c2, kx_pl, kx_cmp, kx_oF, kx_eqN, kx_nil, kx_c1, kx_ft, kx_aI, kx_aL, kx_aR, kx_ln, Nat.reduceAdd, Option.toList, List.cons_append, List.nil_append])
    repeat' apply And.intro
    all_goals try (first | with_reducible assumption | (with_reducible refine ck_nzI ?_; simp; done) | (with_reducible refine ck_nzL ?_; simp; done) | (with_reducible refine vp_in_nI ?_ ?_ <;> first | omega | decide) | (with_reducible refine Nat.le_of_ble_eq_true ?_; rfl) | omega | (unfold vp_in; decide))
    · intro zc273
      refine hB bL_law__280 _ _ _ _ _ _ _ kL_law__280 ?_
      dsimp only [bL_law__280, kx_wp, kx_step, kx_lI, kx_lL, kx_lA, kx_gl, kx_pI, kx_pL, kx_pR, kx_pA, kx_pV, kx_s1, kx_s2, kx_sl, kx_pre, kx_c2, kx_pl, kx_cmp, kx_oF, kx_eqN, kx_nil, kx_c1, kx_ft, kx_aI, kx_aL, kx_aR, kx_ln, Nat.reduceAdd, Option.toList, List.cons_append, List.nil_append]
      repeat (simp only [e1x, c1x, e2x, c2x, e3x, c3x, e4x, c4x, e5x, c5x, h33]; try dsimp only [kx_wp, kx_step, kx_lI, kx_lL, kx_lA, kx_gl, kx_pI, kx_pL, kx_pR, kx_pA, kx_pV, kx_s1, kx_s2, kx_sl, kx_pre, kx_c2, kx_pl, kx_cmp, kx_oF, kx_eqN, kx_nil, kx_c1, kx_ft, kx_aI, kx_aL, kx_aR, kx_ln, Nat.reduceAdd, Option.toList, List.cons_append, List.nil_append])
      repeat' apply And.intro
      all_goals try (first | with_reducible assumption | (with_reducible refine ck_nzI ?_; simp; done) | (with_reducible refine ck_nzL ?_; simp; done) | (with_reducible refine vp_in_nI ?_ ?_ <;> first | omega | decide) | (with_reducible refine Nat.le_of_ble_eq_true ?_; rfl) | omega | (unfold vp_in; decide))
      refine hN.1 128 _ _ _ _ _ _ _ 11 _ _ _ _ _ _ _ _ _ _ lL_128 hM ⟨by decide, rfl⟩ h93 rfl rfl (Nat.le_of_ble_eq_true rfl) (by omega) (by decide) (by omega) (by omega) dL_law__281 ?_
      rintro r3 P3 s3 ⟨e3, e4, S2, go2, hI, h34, h143b⟩
      rw [e3, e4]
      have h34 := h34.trans h3
      dsimp only [Option.toList, List.cons_append, List.nil_append]
      refine hB bL_law__284 _ _ _ _ _ _ _ kL_law__284 ?_
      dsimp only [bL_law__284, kx_wp, kx_step, kx_lI, kx_lL, kx_lA, kx_gl, kx_pI, kx_pL, kx_pR, kx_pA, kx_pV, kx_s1, kx_s2, kx_sl, kx_pre, kx_c2, kx_pl, kx_cmp, kx_oF, kx_eqN, kx_nil, kx_c1, kx_ft, kx_aI, kx_aL, kx_aR, kx_ln, Nat.reduceAdd, Option.toList, List.cons_append, List.nil_append]
      repeat (simp only [e1x, c1x, e2x, c2x, e3x, c3x, e4x, c4x, e5x, c5x, h143b, hc0]; try dsimp only [kx_wp, kx_step, kx_lI, kx_lL, kx_lA, kx_gl, kx_pI, kx_pL, kx_pR, kx_pA, kx_pV, kx_s1, kx_s2, kx_sl, kx_pre, kx_c2, kx_pl, kx_cmp, kx_oF, kx_eqN, kx_nil, kx_c1, kx_ft, kx_aI, kx_aL, kx_aR, kx_ln, Nat.reduceAdd, Option.toList, List.cons_append, List.nil_append])
      repeat' apply And.intro
      all_goals try (first | with_reducible assumption | (with_reducible refine ck_nzI ?_; simp; done) | (with_reducible refine ck_nzL ?_; simp; done) | (with_reducible refine vp_in_nI ?_ ?_ <;> first | omega | decide) | (with_reducible refine Nat.le_of_ble_eq_true ?_; rfl) | omega | (unfold vp_in; decide))
      · intro zc284
        exact hgo P3 s2 S2 cl1 mi1 se1 bl1 go2 _ _ _ _ _ hI h34 h143b (by omega) (by omega) (by omega)
      · intro zc284
        first | exact absurd rfl zc284 | exact absurd zc284 (by decide) | exact absurd (by decide) zc284 | (exfalso; first | exact zc255 hb | exact zc273 hb) | (exfalso; simp_all; done)
    · intro zc273
      first | exact absurd rfl zc273 | exact absurd zc273 (by decide) | exact absurd (by decide) zc273 | (exfalso; first | exact zc255 hb | exact zc273 hb) | (exfalso; simp_all; done)
  · intro zc255
    first | exact absurd rfl zc255 | exact absurd zc255 (by decide) | exact absurd (by decide) zc255 | (exfalso; first | exact zc255 hb | exact zc273 hb) | (exfalso; simp_all; done)

set_option maxRecDepth 100000 in
set_option maxHeartbeats 4000000 in
theorem cj_leap_1 (l : Launch) (G : kx_G) (hst : l.stackTraces = false) {P : kx_P} {sz : Nat} {M : Nat → Int32} {A : Nat → Nat → Int32} {L : Nat → Nat → Int64} {cl mi se : Nat} {bl : Nat → Nat} {go : Nat → Int64} {Ln i k n : Nat} {xs : Nat → Int32} {o5 o6 o7 : Option Value} {g : kx_F} (h : cI P sz (M, A, L) cl mi se bl) (h3 : P 3 = kI 5 Ln xs) (h143 : P 143 = kL 1 go) (hi : i + 6 ≤ Ln) (hL : Ln ≤ 3072) (hk : k + 8 ≤ 601024) (hn : n + cro bl + 2206 ≤ 7293033) (hse : se ≤ 999) (hb : ¬ xs (i + 1) = 0) (hB : kx_rB kxL_L false cL_law_ 601024 7293033 (fun r _ _ => r = some (.int 1)) g) (hN : kx_rN l G RL cL_law_ 60 601024 7293033 g) (hW : kx_rW l G RL cL_law_ 60 601024 7293033 g) (hgo : cAf g Ln xs i se k n bl) : g 248 [some (.ref 3), some (.ref 64), some (.ref 93), some (.ref 143), some (.int (nI i)), o5, o6, o7] [] P sz k n := by
  have e1x : nI i + 1 = nI (i + 1) := by rw [show (1 : Int32) = nI 1 from rfl, nI_add]
  have c1x : (nI (i + 1)).toNatClampNeg = i + 1 := nI_clamp (by omega)
  have e2x : nI i + 2 = nI (i + 2) := by rw [show (2 : Int32) = nI 2 from rfl, nI_add]
  have c2x : (nI (i + 2)).toNatClampNeg = i + 2 := nI_clamp (by omega)
  have e3x : nI i + 3 = nI (i + 3) := by rw [show (3 : Int32) = nI 3 from rfl, nI_add]
  have c3x : (nI (i + 3)).toNatClampNeg = i + 3 := nI_clamp (by omega)
  have e4x : nI i + 4 = nI (i + 4) := by rw [show (4 : Int32) = nI 4 from rfl, nI_add]
  have c4x : (nI (i + 4)).toNatClampNeg = i + 4 := nI_clamp (by omega)
  have e5x : nI i + 5 = nI (i + 5) := by rw [show (5 : Int32) = nI 5 from rfl, nI_add]
  have c5x : (nI (i + 5)).toNatClampNeg = i + 5 := nI_clamp (by omega)
  have hc0 : (0 : Int32).toNatClampNeg = 0 := rfl
  obtain ⟨f64, h64⟩ := cI_k64 h
  have hs := cs_leap l G h 1 (by decide)
  obtain ⟨v, dc, dm, mc, ms, cl1, mi1, se1, bl1, Q, q1, q2, q3, q4, q5, hT, hw, hmo⟩ := hs.n.d h h143
  obtain ⟨b9, e9⟩ := hT.2 (by decide)
  subst e9
  refine hB bL_law__248 _ _ _ _ _ _ _ kL_law__248 ?_
  dsimp only [bL_law__248, kx_wp, kx_step, kx_lI, kx_lL, kx_lA, kx_gl, kx_pI, kx_pL, kx_pR, kx_pA, kx_pV, kx_s1, kx_s2, kx_sl, kx_pre, kx_c2, kx_pl, kx_cmp, kx_oF, kx_eqN, kx_nil, kx_c1, kx_ft, kx_aI, kx_aL, kx_aR, kx_ln, Nat.reduceAdd, Option.toList, List.cons_append, List.nil_append]
  repeat (simp only [e1x, c1x, e2x, c2x, e3x, c3x, e4x, c4x, e5x, c5x, h3]; try dsimp only [kx_wp, kx_step, kx_lI, kx_lL, kx_lA, kx_gl, kx_pI, kx_pL, kx_pR, kx_pA, kx_pV, kx_s1, kx_s2, kx_sl, kx_pre, kx_c2, kx_pl, kx_cmp, kx_oF, kx_eqN, kx_nil, kx_c1, kx_ft, kx_aI, kx_aL, kx_aR, kx_ln, Nat.reduceAdd, Option.toList, List.cons_append, List.nil_append])
  repeat' apply And.intro
  all_goals try (first | with_reducible assumption | (with_reducible refine ck_nzI ?_; simp; done) | (with_reducible refine ck_nzL ?_; simp; done) | (with_reducible refine vp_in_nI ?_ ?_ <;> first | omega | decide) | (with_reducible refine Nat.le_of_ble_eq_true ?_; rfl) | omega | (unfold vp_in; decide))
  · intro zc255
    first | exact absurd rfl zc255 | exact absurd zc255 (by decide) | exact absurd (by decide) zc255 | (exfalso; first | exact hb zc255 | exact hb zc273) | (exfalso; simp_all; done)
  · intro zc255
    refine hB bL_law__258 _ _ _ _ _ _ _ kL_law__258 ?_
    dsimp only [bL_law__258, kx_wp, kx_step, kx_lI, kx_lL, kx_lA, kx_gl, kx_pI, kx_pL, kx_pR, kx_pA, kx_pV, kx_s1, kx_s2, kx_sl, kx_pre, kx_c2, kx_pl, kx_cmp, kx_oF, kx_eqN, kx_nil, kx_c1, kx_ft, kx_aI, kx_aL, kx_aR, kx_ln, Nat.reduceAdd, Option.toList, List.cons_append, List.nil_append]
    repeat (simp only [e1x, c1x, e2x, c2x, e3x, c3x, e4x, c4x, e5x, c5x, h3]; try dsimp only [kx_wp, kx_step, kx_lI, kx_lL, kx_lA, kx_gl, kx_pI, kx_pL, kx_pR, kx_pA, kx_pV, kx_s1, kx_s2, kx_sl, kx_pre, kx_c2, kx_pl, kx_cmp, kx_oF, kx_eqN, kx_nil, kx_c1, kx_ft, kx_aI, kx_aL, kx_aR, kx_ln, Nat.reduceAdd, Option.toList, List.cons_append, List.nil_append])
    repeat' apply And.intro
    all_goals try (first | with_reducible assumption | (with_reducible refine ck_nzI ?_; simp; done) | (with_reducible refine ck_nzL ?_; simp; done) | (with_reducible refine vp_in_nI ?_ ?_ <;> first | omega | decide) | (with_reducible refine Nat.le_of_ble_eq_true ?_; rfl) | omega | (unfold vp_in; decide))
    refine hN.1 124 _ _ _ _ _ _ _ 10 _ _ _ _ _ _ _ _ _ _ lL_124 hw ⟨by decide, rfl⟩ h64 rfl rfl (Nat.le_of_ble_eq_true rfl) (by omega) (by decide) (by omega) (by omega) dL_law__263 ?_
    rintro r2 P2 s2 ⟨e2, hQ⟩
    rw [e2]
    obtain ⟨⟨fm, h93⟩, h33, hM⟩ := hmo P2 s2 hQ
    have h33 := h33.trans h3
    dsimp only [Option.toList, List.cons_append, List.nil_append]
    refine hB bL_law__266 _ _ _ _ _ _ _ kL_law__266 ?_
    dsimp only [bL_law__266, kx_wp, kx_step, kx_lI, kx_lL, kx_lA, kx_gl, kx_pI, kx_pL, kx_pR, kx_pA, kx_pV, kx_s1, kx_s2, kx_sl, kx_pre, kx_c2, kx_pl, kx_cmp, kx_oF, kx_eqN, kx_nil, kx_c1, kx_ft, kx_aI, kx_aL, kx_aR, kx_ln, Nat.reduceAdd, Option.toList, List.cons_append, List.nil_append]
    repeat (simp only [e1x, c1x, e2x, c2x, e3x, c3x, e4x, c4x, e5x, c5x, h33]; try dsimp only [kx_wp, kx_step, kx_lI, kx_lL, kx_lA, kx_gl, kx_pI, kx_pL, kx_pR, kx_pA, kx_pV, kx_s1, kx_s2, kx_sl, kx_pre, kx_c2, kx_pl, kx_cmp, kx_oF, kx_eqN, kx_nil, kx_c1, kx_ft, kx_aI, kx_aL, kx_aR, kx_ln, Nat.reduceAdd, Option.toList, List.cons_append, List.nil_append])
    repeat' apply And.intro
    all_goals try (first | with_reducible assumption | (with_reducible refine ck_nzI ?_; simp; done) | (with_reducible refine ck_nzL ?_; simp; done) | (with_reducible refine vp_in_nI ?_ ?_ <;> first | omega | decide) | (with_reducible refine Nat.le_of_ble_eq_true ?_; rfl) | omega | (unfold vp_in; decide))
    · intro zc273
      first | exact absurd rfl zc273 | exact absurd zc273 (by decide) | exact absurd (by decide) zc273 | (exfalso; first | exact hb zc255 | exact hb zc273) | (exfalso; simp_all; done)
    · intro zc273
      refine hB bL_law__276 _ _ _ _ _ _ _ kL_law__276 ?_
      dsimp only [bL_law__276, kx_wp, kx_step, kx_lI, kx_lL, kx_lA, kx_gl, kx_pI, kx_pL, kx_pR, kx_pA, kx_pV, kx_s1, kx_s2, kx_sl, kx_pre, kx_c2, kx_pl, kx_cmp, kx_oF, kx_eqN, kx_nil, kx_c1, kx_ft, kx_aI, kx_aL, kx_aR, kx_ln, Nat.reduceAdd, Option.toList, List.cons_append, List.nil_append]
      repeat (simp only [e1x, c1x, e2x, c2x, e3x, c3x, e4x, c4x, e5x, c5x, h33]; try dsimp only [kx_wp, kx_step, kx_lI, kx_lL, kx_lA, kx_gl, kx_pI, kx_pL, kx_pR, kx_pA, kx_pV, kx_s1, kx_s2, kx_sl, kx_pre, kx_c2, kx_pl, kx_cmp, kx_oF, kx_eqN, kx_nil, kx_c1, kx_ft, kx_aI, kx_aL, kx_aR, kx_ln, Nat.reduceAdd, Option.toList, List.cons_append, List.nil_append])
      repeat' apply And.intro
      all_goals try (first | with_reducible assumption | (with_reducible refine ck_nzI ?_; simp; done) | (with_reducible refine ck_nzL ?_; simp; done) | (with_reducible refine vp_in_nI ?_ ?_ <;> first | omega | decide) | (with_reducible refine Nat.le_of_ble_eq_true ?_; rfl) | omega | (unfold vp_in; decide))
      refine hN.1 128 _ _ _ _ _ _ _ 11 _ _ _ _ _ _ _ _ _ _ lL_128 hM ⟨by decide, rfl⟩ h93 rfl rfl (Nat.le_of_ble_eq_true rfl) (by omega) (by decide) (by omega) (by omega) dL_law__281 ?_
      rintro r3 P3 s3 ⟨e3, e4, S2, go2, hI, h34, h143b⟩
      rw [e3, e4]
      have h34 := h34.trans h3
      dsimp only [Option.toList, List.cons_append, List.nil_append]
      refine hB bL_law__284 _ _ _ _ _ _ _ kL_law__284 ?_
      dsimp only [bL_law__284, kx_wp, kx_step, kx_lI, kx_lL, kx_lA, kx_gl, kx_pI, kx_pL, kx_pR, kx_pA, kx_pV, kx_s1, kx_s2, kx_sl, kx_pre, kx_c2, kx_pl, kx_cmp, kx_oF, kx_eqN, kx_nil, kx_c1, kx_ft, kx_aI, kx_aL, kx_aR, kx_ln, Nat.reduceAdd, Option.toList, List.cons_append, List.nil_append]
      repeat (simp only [e1x, c1x, e2x, c2x, e3x, c3x, e4x, c4x, e5x, c5x, h143b, hc0]; try dsimp only [kx_wp, kx_step, kx_lI, kx_lL, kx_lA, kx_gl, kx_pI, kx_pL, kx_pR, kx_pA, kx_pV, kx_s1, kx_s2, kx_sl, kx_pre, kx_c2, kx_pl, kx_cmp, kx_oF, kx_eqN, kx_nil, kx_c1, kx_ft, kx_aI, kx_aL, kx_aR, kx_ln, Nat.reduceAdd, Option.toList, List.cons_append, List.nil_append])
      repeat' apply And.intro
      all_goals try (first | with_reducible assumption | (with_reducible refine ck_nzI ?_; simp; done) | (with_reducible refine ck_nzL ?_; simp; done) | (with_reducible refine vp_in_nI ?_ ?_ <;> first | omega | decide) | (with_reducible refine Nat.le_of_ble_eq_true ?_; rfl) | omega | (unfold vp_in; decide))
      · intro zc284
        exact hgo P3 s2 S2 cl1 mi1 se1 bl1 go2 _ _ _ _ _ hI h34 h143b (by omega) (by omega) (by omega)
      · intro zc284
        first | exact absurd rfl zc284 | exact absurd zc284 (by decide) | exact absurd (by decide) zc284 | (exfalso; first | exact hb zc255 | exact hb zc273) | (exfalso; simp_all; done)

set_option maxRecDepth 100000 in
set_option maxHeartbeats 4000000 in
theorem cj_feed (l : Launch) (G : kx_G) (hst : l.stackTraces = false) {P : kx_P} {sz : Nat} {M : Nat → Int32} {A : Nat → Nat → Int32} {L : Nat → Nat → Int64} {cl mi se : Nat} {bl : Nat → Nat} {go : Nat → Int64} {Ln i k n : Nat} {xs : Nat → Int32} {o5 o6 o7 : Option Value} {g : kx_F} (h : cI P sz (M, A, L) cl mi se bl) (h3 : P 3 = kI 5 Ln xs) (h143 : P 143 = kL 1 go) (hi : i + 6 ≤ Ln) (hL : Ln ≤ 3072) (hk : k + 8 ≤ 601024) (hn : n + cro bl + 2206 ≤ 7293033) (hse : se ≤ 999) (hB : kx_rB kxL_L false cL_law_ 601024 7293033 (fun r _ _ => r = some (.int 1)) g) (hN : kx_rN l G RL cL_law_ 60 601024 7293033 g) (hW : kx_rW l G RL cL_law_ 60 601024 7293033 g) (hgo : cAf g Ln xs i se k n bl) : g 289 [some (.ref 3), some (.ref 64), some (.ref 93), some (.ref 143), some (.int (nI i)), o5, o6, o7] [] P sz k n := by
  have e1x : nI i + 1 = nI (i + 1) := by rw [show (1 : Int32) = nI 1 from rfl, nI_add]
  have c1x : (nI (i + 1)).toNatClampNeg = i + 1 := nI_clamp (by omega)
  have e2x : nI i + 2 = nI (i + 2) := by rw [show (2 : Int32) = nI 2 from rfl, nI_add]
  have c2x : (nI (i + 2)).toNatClampNeg = i + 2 := nI_clamp (by omega)
  have e3x : nI i + 3 = nI (i + 3) := by rw [show (3 : Int32) = nI 3 from rfl, nI_add]
  have c3x : (nI (i + 3)).toNatClampNeg = i + 3 := nI_clamp (by omega)
  have e4x : nI i + 4 = nI (i + 4) := by rw [show (4 : Int32) = nI 4 from rfl, nI_add]
  have c4x : (nI (i + 4)).toNatClampNeg = i + 4 := nI_clamp (by omega)
  have e5x : nI i + 5 = nI (i + 5) := by rw [show (5 : Int32) = nI 5 from rfl, nI_add]
  have c5x : (nI (i + 5)).toNatClampNeg = i + 5 := nI_clamp (by omega)
  have hc0 : (0 : Int32).toNatClampNeg = 0 := rfl
  obtain ⟨f64, h64⟩ := cI_k64 h
  have hs := cs_feed l G h (xs (i + 1)) (xs (i + 2)) (xs (i + 3)) (xs (i + 4)) (xs (i + 5))
  obtain ⟨v, dc, dm, mc, ms, cl1, mi1, se1, bl1, Q, q1, q2, q3, q4, q5, hT, hw, hmo⟩ := hs.n.d h h143
  obtain ⟨b9, e9⟩ := hT.2 (by decide)
  subst e9
  refine hB bL_law__289 _ _ _ _ _ _ _ kL_law__289 ?_
  dsimp only [bL_law__289, kx_wp, kx_step, kx_lI, kx_lL, kx_lA, kx_gl, kx_pI, kx_pL, kx_pR, kx_pA, kx_pV, kx_s1, kx_s2, kx_sl, kx_pre, kx_c2, kx_pl, kx_cmp, kx_oF, kx_eqN, kx_nil, kx_c1, kx_ft, kx_aI, kx_aL, kx_aR, kx_ln, Nat.reduceAdd, Option.toList, List.cons_append, List.nil_append]
  repeat (simp only [e1x, c1x, e2x, c2x, e3x, c3x, e4x, c4x, e5x, c5x, h3]; try dsimp only [kx_wp, kx_step, kx_lI, kx_lL, kx_lA, kx_gl, kx_pI, kx_pL, kx_pR, kx_pA, kx_pV, kx_s1, kx_s2, kx_sl, kx_pre, kx_c2, kx_pl, kx_cmp, kx_oF, kx_eqN, kx_nil, kx_c1, kx_ft, kx_aI, kx_aL, kx_aR, kx_ln, Nat.reduceAdd, Option.toList, List.cons_append, List.nil_append])
  repeat' apply And.intro
  all_goals try (first | with_reducible assumption | (with_reducible refine ck_nzI ?_; simp; done) | (with_reducible refine ck_nzL ?_; simp; done) | (with_reducible refine vp_in_nI ?_ ?_ <;> first | omega | decide) | (with_reducible refine Nat.le_of_ble_eq_true ?_; rfl) | omega | (unfold vp_in; decide))
  refine hN.1 129 _ _ _ _ _ _ _ 10 _ _ _ _ _ _ _ _ _ _ lL_129 hw ⟨by decide, rfl⟩ h64 rfl rfl (Nat.le_of_ble_eq_true rfl) (by omega) (by decide) (by omega) (by omega) dL_law__320 ?_
  rintro r2 P2 s2 ⟨e2, hQ⟩
  rw [e2]
  obtain ⟨⟨fm, h93⟩, h33, hM⟩ := hmo P2 s2 hQ
  have h33 := h33.trans h3
  dsimp only [Option.toList, List.cons_append, List.nil_append]
  refine hB bL_law__323 _ _ _ _ _ _ _ kL_law__323 ?_
  dsimp only [bL_law__323, kx_wp, kx_step, kx_lI, kx_lL, kx_lA, kx_gl, kx_pI, kx_pL, kx_pR, kx_pA, kx_pV, kx_s1, kx_s2, kx_sl, kx_pre, kx_c2, kx_pl, kx_cmp, kx_oF, kx_eqN, kx_nil, kx_c1, kx_ft, kx_aI, kx_aL, kx_aR, kx_ln, Nat.reduceAdd, Option.toList, List.cons_append, List.nil_append]
  repeat (simp only [e1x, c1x, e2x, c2x, e3x, c3x, e4x, c4x, e5x, c5x, h33]; try dsimp only [kx_wp, kx_step, kx_lI, kx_lL, kx_lA, kx_gl, kx_pI, kx_pL, kx_pR, kx_pA, kx_pV, kx_s1, kx_s2, kx_sl, kx_pre, kx_c2, kx_pl, kx_cmp, kx_oF, kx_eqN, kx_nil, kx_c1, kx_ft, kx_aI, kx_aL, kx_aR, kx_ln, Nat.reduceAdd, Option.toList, List.cons_append, List.nil_append])
  repeat' apply And.intro
  all_goals try (first | with_reducible assumption | (with_reducible refine ck_nzI ?_; simp; done) | (with_reducible refine ck_nzL ?_; simp; done) | (with_reducible refine vp_in_nI ?_ ?_ <;> first | omega | decide) | (with_reducible refine Nat.le_of_ble_eq_true ?_; rfl) | omega | (unfold vp_in; decide))
  refine hN.1 133 _ _ _ _ _ _ _ 11 _ _ _ _ _ _ _ _ _ _ lL_133 hM ⟨by decide, rfl⟩ h93 rfl rfl (Nat.le_of_ble_eq_true rfl) (by omega) (by decide) (by omega) (by omega) dL_law__354 ?_
  rintro r3 P3 s3 ⟨e3, e4, S2, go2, hI, h34, h143b⟩
  rw [e3, e4]
  have h34 := h34.trans h3
  dsimp only [Option.toList, List.cons_append, List.nil_append]
  refine hB bL_law__357 _ _ _ _ _ _ _ kL_law__357 ?_
  dsimp only [bL_law__357, kx_wp, kx_step, kx_lI, kx_lL, kx_lA, kx_gl, kx_pI, kx_pL, kx_pR, kx_pA, kx_pV, kx_s1, kx_s2, kx_sl, kx_pre, kx_c2, kx_pl, kx_cmp, kx_oF, kx_eqN, kx_nil, kx_c1, kx_ft, kx_aI, kx_aL, kx_aR, kx_ln, Nat.reduceAdd, Option.toList, List.cons_append, List.nil_append]
  repeat (simp only [e1x, c1x, e2x, c2x, e3x, c3x, e4x, c4x, e5x, c5x, h143b, hc0]; try dsimp only [kx_wp, kx_step, kx_lI, kx_lL, kx_lA, kx_gl, kx_pI, kx_pL, kx_pR, kx_pA, kx_pV, kx_s1, kx_s2, kx_sl, kx_pre, kx_c2, kx_pl, kx_cmp, kx_oF, kx_eqN, kx_nil, kx_c1, kx_ft, kx_aI, kx_aL, kx_aR, kx_ln, Nat.reduceAdd, Option.toList, List.cons_append, List.nil_append])
  repeat' apply And.intro
  all_goals try (first | with_reducible assumption | (with_reducible refine ck_nzI ?_; simp; done) | (with_reducible refine ck_nzL ?_; simp; done) | (with_reducible refine vp_in_nI ?_ ?_ <;> first | omega | decide) | (with_reducible refine Nat.le_of_ble_eq_true ?_; rfl) | omega | (unfold vp_in; decide))
  · intro zc357
    exact hgo P3 s2 S2 cl1 mi1 se1 bl1 go2 _ _ _ _ _ hI h34 h143b (by omega) (by omega) (by omega)
  · intro zc357
    first | exact absurd rfl zc357 | exact absurd zc357 (by decide) | exact absurd (by decide) zc357 | (exfalso; simp_all; done) | (exfalso; simp_all; done)

set_option maxRecDepth 100000 in
set_option maxHeartbeats 4000000 in
theorem cj_clock (l : Launch) (G : kx_G) (hst : l.stackTraces = false) {P : kx_P} {sz : Nat} {M : Nat → Int32} {A : Nat → Nat → Int32} {L : Nat → Nat → Int64} {cl mi se : Nat} {bl : Nat → Nat} {go : Nat → Int64} {Ln i k n : Nat} {xs : Nat → Int32} {o5 o6 o7 : Option Value} {g : kx_F} (h : cI P sz (M, A, L) cl mi se bl) (h3 : P 3 = kI 5 Ln xs) (h143 : P 143 = kL 1 go) (hi : i + 6 ≤ Ln) (hL : Ln ≤ 3072) (hk : k + 8 ≤ 601024) (hn : n + cro bl + 2206 ≤ 7293033) (hse : se ≤ 999) (hB : kx_rB kxL_L false cL_law_ 601024 7293033 (fun r _ _ => r = some (.int 1)) g) (hN : kx_rN l G RL cL_law_ 60 601024 7293033 g) (hW : kx_rW l G RL cL_law_ 60 601024 7293033 g) (hgo : cAf g Ln xs i se k n bl) : g 362 [some (.ref 3), some (.ref 64), some (.ref 93), some (.ref 143), some (.int (nI i)), o5, o6, o7] [] P sz k n := by
  have e1x : nI i + 1 = nI (i + 1) := by rw [show (1 : Int32) = nI 1 from rfl, nI_add]
  have c1x : (nI (i + 1)).toNatClampNeg = i + 1 := nI_clamp (by omega)
  have e2x : nI i + 2 = nI (i + 2) := by rw [show (2 : Int32) = nI 2 from rfl, nI_add]
  have c2x : (nI (i + 2)).toNatClampNeg = i + 2 := nI_clamp (by omega)
  have e3x : nI i + 3 = nI (i + 3) := by rw [show (3 : Int32) = nI 3 from rfl, nI_add]
  have c3x : (nI (i + 3)).toNatClampNeg = i + 3 := nI_clamp (by omega)
  have e4x : nI i + 4 = nI (i + 4) := by rw [show (4 : Int32) = nI 4 from rfl, nI_add]
  have c4x : (nI (i + 4)).toNatClampNeg = i + 4 := nI_clamp (by omega)
  have e5x : nI i + 5 = nI (i + 5) := by rw [show (5 : Int32) = nI 5 from rfl, nI_add]
  have c5x : (nI (i + 5)).toNatClampNeg = i + 5 := nI_clamp (by omega)
  have hc0 : (0 : Int32).toNatClampNeg = 0 := rfl
  obtain ⟨f64, h64⟩ := cI_k64 h
  have hs := cs_clock l G hst h (xs (i + 1)) (xs (i + 2)) (xs (i + 3))
  obtain ⟨k9, dw, dm, mc, ms, cl1, mi1, se1, bl1, Q, q1, q2, q3, q4, q5, hw, hmo⟩ := cSs.s (yw := sL_clock) (hh := hL_clock) (Aw := [.ref 64, .int (xs (i + 1)), .int (xs (i + 2)), .int (xs (i + 3)), .ref 143]) h h143 hs (fun d mc ms Po => cw_clock_t l G h64) (fun p hp => by
    simp only [List.mem_cons, List.not_mem_nil, or_false] at hp
    rcases hp with rfl
    · exact ⟨by decide, fun d => cw_clock_x0 l G h64⟩)
  refine hB bL_law__362 _ _ _ _ _ _ _ kL_law__362 ?_
  dsimp only [bL_law__362, kx_wp, kx_step, kx_lI, kx_lL, kx_lA, kx_gl, kx_pI, kx_pL, kx_pR, kx_pA, kx_pV, kx_s1, kx_s2, kx_sl, kx_pre, kx_c2, kx_pl, kx_cmp, kx_oF, kx_eqN, kx_nil, kx_c1, kx_ft, kx_aI, kx_aL, kx_aR, kx_ln, Nat.reduceAdd, Option.toList, List.cons_append, List.nil_append]
  repeat (simp only [e1x, c1x, e2x, c2x, e3x, c3x, e4x, c4x, e5x, c5x, h3]; try dsimp only [kx_wp, kx_step, kx_lI, kx_lL, kx_lA, kx_gl, kx_pI, kx_pL, kx_pR, kx_pA, kx_pV, kx_s1, kx_s2, kx_sl, kx_pre, kx_c2, kx_pl, kx_cmp, kx_oF, kx_eqN, kx_nil, kx_c1, kx_ft, kx_aI, kx_aL, kx_aR, kx_ln, Nat.reduceAdd, Option.toList, List.cons_append, List.nil_append])
  repeat' apply And.intro
  all_goals try (first | with_reducible assumption | (with_reducible refine ck_nzI ?_; simp; done) | (with_reducible refine ck_nzL ?_; simp; done) | (with_reducible refine vp_in_nI ?_ ?_ <;> first | omega | decide) | (with_reducible refine Nat.le_of_ble_eq_true ?_; rfl) | omega | (unfold vp_in; decide))
  refine hW 134 _ _ _ _ _ _ _ _ _ _ _ _ _ _ _ _ lL_134 hw rfl rfl (Nat.le_of_ble_eq_true rfl) (by omega) (by decide) (by omega) (by omega) dL_law__382 ?_
  rintro r2 P2 s2 ⟨e2, hQ⟩
  rw [e2]
  obtain ⟨⟨fm, h93⟩, h33, hM⟩ := hmo P2 s2 hQ
  have h33 := h33.trans h3
  dsimp only [Option.toList, List.cons_append, List.nil_append]
  refine hB bL_law__385 _ _ _ _ _ _ _ kL_law__385 ?_
  dsimp only [bL_law__385, kx_wp, kx_step, kx_lI, kx_lL, kx_lA, kx_gl, kx_pI, kx_pL, kx_pR, kx_pA, kx_pV, kx_s1, kx_s2, kx_sl, kx_pre, kx_c2, kx_pl, kx_cmp, kx_oF, kx_eqN, kx_nil, kx_c1, kx_ft, kx_aI, kx_aL, kx_aR, kx_ln, Nat.reduceAdd, Option.toList, List.cons_append, List.nil_append]
  repeat (simp only [e1x, c1x, e2x, c2x, e3x, c3x, e4x, c4x, e5x, c5x, h33]; try dsimp only [kx_wp, kx_step, kx_lI, kx_lL, kx_lA, kx_gl, kx_pI, kx_pL, kx_pR, kx_pA, kx_pV, kx_s1, kx_s2, kx_sl, kx_pre, kx_c2, kx_pl, kx_cmp, kx_oF, kx_eqN, kx_nil, kx_c1, kx_ft, kx_aI, kx_aL, kx_aR, kx_ln, Nat.reduceAdd, Option.toList, List.cons_append, List.nil_append])
  repeat' apply And.intro
  all_goals try (first | with_reducible assumption | (with_reducible refine ck_nzI ?_; simp; done) | (with_reducible refine ck_nzL ?_; simp; done) | (with_reducible refine vp_in_nI ?_ ?_ <;> first | omega | decide) | (with_reducible refine Nat.le_of_ble_eq_true ?_; rfl) | omega | (unfold vp_in; decide))
  refine hN.1 137 _ _ _ _ _ _ _ 11 _ _ _ _ _ _ _ _ _ _ lL_137 hM ⟨by decide, rfl⟩ h93 rfl rfl (Nat.le_of_ble_eq_true rfl) (by omega) (by decide) (by omega) (by omega) dL_law__406 ?_
  rintro r3 P3 s3 ⟨e3, v, S2, go2, e4, hT, hk0, hI, h34, h143b, hgo0⟩
  obtain ⟨b9, e5⟩ := hT.2 (by decide)
  subst e5
  rw [e3, e4]
  have h34 := h34.trans h3
  have h93b := cI_93 hI
  have hth := cI_th l G hI
  rw [hk0] at hth
  dsimp only [Option.toList, List.cons_append, List.nil_append]
  refine hB bL_law__409 _ _ _ _ _ _ _ kL_law__409 ?_
  dsimp only [bL_law__409, kx_wp, kx_step, kx_lI, kx_lL, kx_lA, kx_gl, kx_pI, kx_pL, kx_pR, kx_pA, kx_pV, kx_s1, kx_s2, kx_sl, kx_pre, kx_c2, kx_pl, kx_cmp, kx_oF, kx_eqN, kx_nil, kx_c1, kx_ft, kx_aI, kx_aL, kx_aR, kx_ln, Nat.reduceAdd, Option.toList, List.cons_append, List.nil_append]
  repeat (simp only [e1x, c1x, e2x, c2x, e3x, c3x, e4x, c4x, e5x, c5x, h143b, hc0]; try dsimp only [kx_wp, kx_step, kx_lI, kx_lL, kx_lA, kx_gl, kx_pI, kx_pL, kx_pR, kx_pA, kx_pV, kx_s1, kx_s2, kx_sl, kx_pre, kx_c2, kx_pl, kx_cmp, kx_oF, kx_eqN, kx_nil, kx_c1, kx_ft, kx_aI, kx_aL, kx_aR, kx_ln, Nat.reduceAdd, Option.toList, List.cons_append, List.nil_append])
  repeat' apply And.intro
  all_goals try (first | with_reducible assumption | (with_reducible refine ck_nzI ?_; simp; done) | (with_reducible refine ck_nzL ?_; simp; done) | (with_reducible refine vp_in_nI ?_ ?_ <;> first | omega | decide) | (with_reducible refine Nat.le_of_ble_eq_true ?_; rfl) | omega | (unfold vp_in; decide))
  refine hN.1 120 _ _ _ _ _ _ _ 11 _ _ _ _ _ _ _ _ _ _ lL_120 hth.n ⟨by decide, rfl⟩ h93b rfl rfl (Nat.le_of_ble_eq_true rfl) (by omega) (by decide) (by omega) (by omega) dL_law__412 ?_
  rintro r4 P4 s4 ⟨e6, e7, e8⟩
  rw [e6, e7, e8]
  dsimp only [Option.toList, List.cons_append, List.nil_append]
  refine hB bL_law__415 _ _ _ _ _ _ _ kL_law__415 ?_
  dsimp only [bL_law__415, kx_wp, kx_step, kx_lI, kx_lL, kx_lA, kx_gl, kx_pI, kx_pL, kx_pR, kx_pA, kx_pV, kx_s1, kx_s2, kx_sl, kx_pre, kx_c2, kx_pl, kx_cmp, kx_oF, kx_eqN, kx_nil, kx_c1, kx_ft, kx_aI, kx_aL, kx_aR, kx_ln, Nat.reduceAdd, Option.toList, List.cons_append, List.nil_append]
  repeat (simp only [e1x, c1x, e2x, c2x, e3x, c3x, e4x, c4x, e5x, c5x, h143b, hc0]; try dsimp only [kx_wp, kx_step, kx_lI, kx_lL, kx_lA, kx_gl, kx_pI, kx_pL, kx_pR, kx_pA, kx_pV, kx_s1, kx_s2, kx_sl, kx_pre, kx_c2, kx_pl, kx_cmp, kx_oF, kx_eqN, kx_nil, kx_c1, kx_ft, kx_aI, kx_aL, kx_aR, kx_ln, Nat.reduceAdd, Option.toList, List.cons_append, List.nil_append])
  repeat' apply And.intro
  all_goals try (first | with_reducible assumption | (with_reducible refine ck_nzI ?_; simp; done) | (with_reducible refine ck_nzL ?_; simp; done) | (with_reducible refine vp_in_nI ?_ ?_ <;> first | omega | decide) | (with_reducible refine Nat.le_of_ble_eq_true ?_; rfl) | omega | (unfold vp_in; decide))
  · intro zc417
    refine hB bL_law__422 _ _ _ _ _ _ _ kL_law__422 ?_
    dsimp only [bL_law__422, kx_wp, kx_step, kx_lI, kx_lL, kx_lA, kx_gl, kx_pI, kx_pL, kx_pR, kx_pA, kx_pV, kx_s1, kx_s2, kx_sl, kx_pre, kx_c2, kx_pl, kx_cmp, kx_oF, kx_eqN, kx_nil, kx_c1, kx_ft, kx_aI, kx_aL, kx_aR, kx_ln, Nat.reduceAdd, Option.toList, List.cons_append, List.nil_append]
    repeat (simp only [e1x, c1x, e2x, c2x, e3x, c3x, e4x, c4x, e5x, c5x, h143b, hc0]; try dsimp only [kx_wp, kx_step, kx_lI, kx_lL, kx_lA, kx_gl, kx_pI, kx_pL, kx_pR, kx_pA, kx_pV, kx_s1, kx_s2, kx_sl, kx_pre, kx_c2, kx_pl, kx_cmp, kx_oF, kx_eqN, kx_nil, kx_c1, kx_ft, kx_aI, kx_aL, kx_aR, kx_ln, Nat.reduceAdd, Option.toList, List.cons_append, List.nil_append])
    repeat' apply And.intro
    all_goals try (first | with_reducible assumption | (with_reducible refine ck_nzI ?_; simp; done) | (with_reducible refine ck_nzL ?_; simp; done) | (with_reducible refine vp_in_nI ?_ ?_ <;> first | omega | decide) | (with_reducible refine Nat.le_of_ble_eq_true ?_; rfl) | omega | (unfold vp_in; decide))
    · intro zc424
      refine hB bL_law__439 _ _ _ _ _ _ _ kL_law__439 ?_
      dsimp only [bL_law__439, kx_wp, kx_step, kx_lI, kx_lL, kx_lA, kx_gl, kx_pI, kx_pL, kx_pR, kx_pA, kx_pV, kx_s1, kx_s2, kx_sl, kx_pre, kx_c2, kx_pl, kx_cmp, kx_oF, kx_eqN, kx_nil, kx_c1, kx_ft, kx_aI, kx_aL, kx_aR, kx_ln, Nat.reduceAdd, Option.toList, List.cons_append, List.nil_append]
      repeat (simp only [e1x, c1x, e2x, c2x, e3x, c3x, e4x, c4x, e5x, c5x, h143b, hc0]; try dsimp only [kx_wp, kx_step, kx_lI, kx_lL, kx_lA, kx_gl, kx_pI, kx_pL, kx_pR, kx_pA, kx_pV, kx_s1, kx_s2, kx_sl, kx_pre, kx_c2, kx_pl, kx_cmp, kx_oF, kx_eqN, kx_nil, kx_c1, kx_ft, kx_aI, kx_aL, kx_aR, kx_ln, Nat.reduceAdd, Option.toList, List.cons_append, List.nil_append])
      repeat' apply And.intro
      all_goals try (first | with_reducible assumption | (with_reducible refine ck_nzI ?_; simp; done) | (with_reducible refine ck_nzL ?_; simp; done) | (with_reducible refine vp_in_nI ?_ ?_ <;> first | omega | decide) | (with_reducible refine Nat.le_of_ble_eq_true ?_; rfl) | omega | (unfold vp_in; decide))
      exact hgo P3 s2 S2 cl1 mi1 se1 bl1 go2 _ _ _ _ _ hI h34 h143b (by omega) (by omega) (by omega)
    · intro zc424
      refine hB bL_law__427 _ _ _ _ _ _ _ kL_law__427 ?_
      dsimp only [bL_law__427, kx_wp, kx_step, kx_lI, kx_lL, kx_lA, kx_gl, kx_pI, kx_pL, kx_pR, kx_pA, kx_pV, kx_s1, kx_s2, kx_sl, kx_pre, kx_c2, kx_pl, kx_cmp, kx_oF, kx_eqN, kx_nil, kx_c1, kx_ft, kx_aI, kx_aL, kx_aR, kx_ln, Nat.reduceAdd, Option.toList, List.cons_append, List.nil_append]
      repeat (simp only [e1x, c1x, e2x, c2x, e3x, c3x, e4x, c4x, e5x, c5x, h143b, hc0]; try dsimp only [kx_wp, kx_step, kx_lI, kx_lL, kx_lA, kx_gl, kx_pI, kx_pL, kx_pR, kx_pA, kx_pV, kx_s1, kx_s2, kx_sl, kx_pre, kx_c2, kx_pl, kx_cmp, kx_oF, kx_eqN, kx_nil, kx_c1, kx_ft, kx_aI, kx_aL, kx_aR, kx_ln, Nat.reduceAdd, Option.toList, List.cons_append, List.nil_append])
      repeat' apply And.intro
      all_goals try (first | with_reducible assumption | (with_reducible refine ck_nzI ?_; simp; done) | (with_reducible refine ck_nzL ?_; simp; done) | (with_reducible refine vp_in_nI ?_ ?_ <;> first | omega | decide) | (with_reducible refine Nat.le_of_ble_eq_true ?_; rfl) | omega | (unfold vp_in; decide))
      · intro zc434
        refine hB bL_law__439 _ _ _ _ _ _ _ kL_law__439 ?_
        dsimp only [bL_law__439, kx_wp, kx_step, kx_lI, kx_lL, kx_lA, kx_gl, kx_pI, kx_pL, kx_pR, kx_pA, kx_pV, kx_s1, kx_s2, kx_sl, kx_pre, kx_c2, kx_pl, kx_cmp, kx_oF, kx_eqN, kx_nil, kx_c1, kx_ft, kx_aI, kx_aL, kx_aR, kx_ln, Nat.reduceAdd, Option.toList, List.cons_append, List.nil_append]
        repeat (simp only [e1x, c1x, e2x, c2x, e3x, c3x, e4x, c4x, e5x, c5x, h143b, hc0]; try dsimp only [kx_wp, kx_step, kx_lI, kx_lL, kx_lA, kx_gl, kx_pI, kx_pL, kx_pR, kx_pA, kx_pV, kx_s1, kx_s2, kx_sl, kx_pre, kx_c2, kx_pl, kx_cmp, kx_oF, kx_eqN, kx_nil, kx_c1, kx_ft, kx_aI, kx_aL, kx_aR, kx_ln, Nat.reduceAdd, Option.toList, List.cons_append, List.nil_append])
        repeat' apply And.intro
        all_goals try (first | with_reducible assumption | (with_reducible refine ck_nzI ?_; simp; done) | (with_reducible refine ck_nzL ?_; simp; done) | (with_reducible refine vp_in_nI ?_ ?_ <;> first | omega | decide) | (with_reducible refine Nat.le_of_ble_eq_true ?_; rfl) | omega | (unfold vp_in; decide))
        exact hgo P3 s2 S2 cl1 mi1 se1 bl1 go2 _ _ _ _ _ hI h34 h143b (by omega) (by omega) (by omega)
      · intro zc434
        first | exact absurd rfl zc434 | exact absurd zc434 (by decide) | exact absurd (by decide) zc434 | (exfalso; first | exact zc434 (by rw [hgo0 (Decidable.not_not.mp zc424)]; exact lg_cmp_s _)) | (exfalso; simp_all; done)
  · intro zc417
    first | exact absurd rfl zc417 | exact absurd zc417 (by decide) | exact absurd (by decide) zc417 | (exfalso; first | exact zc434 (by rw [hgo0 (Decidable.not_not.mp zc424)]; exact lg_cmp_s _)) | (exfalso; simp_all; done)

set_option maxRecDepth 100000 in
set_option maxHeartbeats 4000000 in
theorem cj_fault (l : Launch) (G : kx_G) (hst : l.stackTraces = false) {P : kx_P} {sz : Nat} {M : Nat → Int32} {A : Nat → Nat → Int32} {L : Nat → Nat → Int64} {cl mi se : Nat} {bl : Nat → Nat} {go : Nat → Int64} {Ln i k n : Nat} {xs : Nat → Int32} {o5 o6 o7 : Option Value} {g : kx_F} (h : cI P sz (M, A, L) cl mi se bl) (h3 : P 3 = kI 5 Ln xs) (h143 : P 143 = kL 1 go) (hi : i + 6 ≤ Ln) (hL : Ln ≤ 3072) (hk : k + 8 ≤ 601024) (hn : n + cro bl + 2206 ≤ 7293033) (hse : se ≤ 999) (hB : kx_rB kxL_L false cL_law_ 601024 7293033 (fun r _ _ => r = some (.int 1)) g) (hN : kx_rN l G RL cL_law_ 60 601024 7293033 g) (hW : kx_rW l G RL cL_law_ 60 601024 7293033 g) (hgo : cAf g Ln xs i se k n bl) : g 442 [some (.ref 3), some (.ref 64), some (.ref 93), some (.ref 143), some (.int (nI i)), o5, o6, o7] [] P sz k n := by
  have e1x : nI i + 1 = nI (i + 1) := by rw [show (1 : Int32) = nI 1 from rfl, nI_add]
  have c1x : (nI (i + 1)).toNatClampNeg = i + 1 := nI_clamp (by omega)
  have e2x : nI i + 2 = nI (i + 2) := by rw [show (2 : Int32) = nI 2 from rfl, nI_add]
  have c2x : (nI (i + 2)).toNatClampNeg = i + 2 := nI_clamp (by omega)
  have e3x : nI i + 3 = nI (i + 3) := by rw [show (3 : Int32) = nI 3 from rfl, nI_add]
  have c3x : (nI (i + 3)).toNatClampNeg = i + 3 := nI_clamp (by omega)
  have e4x : nI i + 4 = nI (i + 4) := by rw [show (4 : Int32) = nI 4 from rfl, nI_add]
  have c4x : (nI (i + 4)).toNatClampNeg = i + 4 := nI_clamp (by omega)
  have e5x : nI i + 5 = nI (i + 5) := by rw [show (5 : Int32) = nI 5 from rfl, nI_add]
  have c5x : (nI (i + 5)).toNatClampNeg = i + 5 := nI_clamp (by omega)
  have hc0 : (0 : Int32).toNatClampNeg = 0 := rfl
  obtain ⟨f64, h64⟩ := cI_k64 h
  have hs := cs_fault l G h 
  obtain ⟨v, dc, dm, mc, ms, cl1, mi1, se1, bl1, Q, q1, q2, q3, q4, q5, hT, hw, hmo⟩ := hs.d h h143
  obtain ⟨b9, e9⟩ := hT.2 (by decide)
  subst e9
  refine hB bL_law__442 _ _ _ _ _ _ _ kL_law__442 ?_
  dsimp only [bL_law__442, kx_wp, kx_step, kx_lI, kx_lL, kx_lA, kx_gl, kx_pI, kx_pL, kx_pR, kx_pA, kx_pV, kx_s1, kx_s2, kx_sl, kx_pre, kx_c2, kx_pl, kx_cmp, kx_oF, kx_eqN, kx_nil, kx_c1, kx_ft, kx_aI, kx_aL, kx_aR, kx_ln, Nat.reduceAdd, Option.toList, List.cons_append, List.nil_append]
  repeat (simp only [e1x, c1x, e2x, c2x, e3x, c3x, e4x, c4x, e5x, c5x, h3]; try dsimp only [kx_wp, kx_step, kx_lI, kx_lL, kx_lA, kx_gl, kx_pI, kx_pL, kx_pR, kx_pA, kx_pV, kx_s1, kx_s2, kx_sl, kx_pre, kx_c2, kx_pl, kx_cmp, kx_oF, kx_eqN, kx_nil, kx_c1, kx_ft, kx_aI, kx_aL, kx_aR, kx_ln, Nat.reduceAdd, Option.toList, List.cons_append, List.nil_append])
  repeat' apply And.intro
  all_goals try (first | with_reducible assumption | (with_reducible refine ck_nzI ?_; simp; done) | (with_reducible refine ck_nzL ?_; simp; done) | (with_reducible refine vp_in_nI ?_ ?_ <;> first | omega | decide) | (with_reducible refine Nat.le_of_ble_eq_true ?_; rfl) | omega | (unfold vp_in; decide))
  refine hN.1 138 _ _ _ _ _ _ _ 10 _ _ _ _ _ _ _ _ _ _ lL_138 hw ⟨by decide, rfl⟩ h64 rfl rfl (Nat.le_of_ble_eq_true rfl) (by omega) (by decide) (by omega) (by omega) dL_law__443 ?_
  rintro r2 P2 s2 ⟨e2, hQ⟩
  rw [e2]
  obtain ⟨⟨fm, h93⟩, h33, hM⟩ := hmo P2 s2 hQ
  have h33 := h33.trans h3
  dsimp only [Option.toList, List.cons_append, List.nil_append]
  refine hB bL_law__446 _ _ _ _ _ _ _ kL_law__446 ?_
  dsimp only [bL_law__446, kx_wp, kx_step, kx_lI, kx_lL, kx_lA, kx_gl, kx_pI, kx_pL, kx_pR, kx_pA, kx_pV, kx_s1, kx_s2, kx_sl, kx_pre, kx_c2, kx_pl, kx_cmp, kx_oF, kx_eqN, kx_nil, kx_c1, kx_ft, kx_aI, kx_aL, kx_aR, kx_ln, Nat.reduceAdd, Option.toList, List.cons_append, List.nil_append]
  repeat (simp only [e1x, c1x, e2x, c2x, e3x, c3x, e4x, c4x, e5x, c5x, h33]; try dsimp only [kx_wp, kx_step, kx_lI, kx_lL, kx_lA, kx_gl, kx_pI, kx_pL, kx_pR, kx_pA, kx_pV, kx_s1, kx_s2, kx_sl, kx_pre, kx_c2, kx_pl, kx_cmp, kx_oF, kx_eqN, kx_nil, kx_c1, kx_ft, kx_aI, kx_aL, kx_aR, kx_ln, Nat.reduceAdd, Option.toList, List.cons_append, List.nil_append])
  repeat' apply And.intro
  all_goals try (first | with_reducible assumption | (with_reducible refine ck_nzI ?_; simp; done) | (with_reducible refine ck_nzL ?_; simp; done) | (with_reducible refine vp_in_nI ?_ ?_ <;> first | omega | decide) | (with_reducible refine Nat.le_of_ble_eq_true ?_; rfl) | omega | (unfold vp_in; decide))
  refine hN.1 141 _ _ _ _ _ _ _ 11 _ _ _ _ _ _ _ _ _ _ lL_141 hM ⟨by decide, rfl⟩ h93 rfl rfl (Nat.le_of_ble_eq_true rfl) (by omega) (by decide) (by omega) (by omega) dL_law__447 ?_
  rintro r3 P3 s3 ⟨e3, e4, S2, go2, hI, h34, h143b⟩
  rw [e3, e4]
  have h34 := h34.trans h3
  dsimp only [Option.toList, List.cons_append, List.nil_append]
  refine hB bL_law__450 _ _ _ _ _ _ _ kL_law__450 ?_
  dsimp only [bL_law__450, kx_wp, kx_step, kx_lI, kx_lL, kx_lA, kx_gl, kx_pI, kx_pL, kx_pR, kx_pA, kx_pV, kx_s1, kx_s2, kx_sl, kx_pre, kx_c2, kx_pl, kx_cmp, kx_oF, kx_eqN, kx_nil, kx_c1, kx_ft, kx_aI, kx_aL, kx_aR, kx_ln, Nat.reduceAdd, Option.toList, List.cons_append, List.nil_append]
  repeat (simp only [e1x, c1x, e2x, c2x, e3x, c3x, e4x, c4x, e5x, c5x, h143b, hc0]; try dsimp only [kx_wp, kx_step, kx_lI, kx_lL, kx_lA, kx_gl, kx_pI, kx_pL, kx_pR, kx_pA, kx_pV, kx_s1, kx_s2, kx_sl, kx_pre, kx_c2, kx_pl, kx_cmp, kx_oF, kx_eqN, kx_nil, kx_c1, kx_ft, kx_aI, kx_aL, kx_aR, kx_ln, Nat.reduceAdd, Option.toList, List.cons_append, List.nil_append])
  repeat' apply And.intro
  all_goals try (first | with_reducible assumption | (with_reducible refine ck_nzI ?_; simp; done) | (with_reducible refine ck_nzL ?_; simp; done) | (with_reducible refine vp_in_nI ?_ ?_ <;> first | omega | decide) | (with_reducible refine Nat.le_of_ble_eq_true ?_; rfl) | omega | (unfold vp_in; decide))
  · intro zc450
    exact hgo P3 s2 S2 cl1 mi1 se1 bl1 go2 _ _ _ _ _ hI h34 h143b (by omega) (by omega) (by omega)
  · intro zc450
    first | exact absurd rfl zc450 | exact absurd zc450 (by decide) | exact absurd (by decide) zc450 | (exfalso; simp_all; done) | (exfalso; simp_all; done)

set_option maxRecDepth 100000 in
set_option maxHeartbeats 4000000 in
theorem cj_wait (l : Launch) (G : kx_G) (hst : l.stackTraces = false) {P : kx_P} {sz : Nat} {M : Nat → Int32} {A : Nat → Nat → Int32} {L : Nat → Nat → Int64} {cl mi se : Nat} {bl : Nat → Nat} {go : Nat → Int64} {Ln i k n : Nat} {xs : Nat → Int32} {o5 o6 o7 : Option Value} {g : kx_F} (h : cI P sz (M, A, L) cl mi se bl) (h3 : P 3 = kI 5 Ln xs) (h143 : P 143 = kL 1 go) (hi : i + 6 ≤ Ln) (hL : Ln ≤ 3072) (hk : k + 8 ≤ 601024) (hn : n + cro bl + 2206 ≤ 7293033) (hse : se ≤ 999) (hB : kx_rB kxL_L false cL_law_ 601024 7293033 (fun r _ _ => r = some (.int 1)) g) (hN : kx_rN l G RL cL_law_ 60 601024 7293033 g) (hW : kx_rW l G RL cL_law_ 60 601024 7293033 g) (hgo : cAf g Ln xs i se k n bl) : g 455 [some (.ref 3), some (.ref 64), some (.ref 93), some (.ref 143), some (.int (nI i)), o5, o6, o7] [] P sz k n := by
  have e1x : nI i + 1 = nI (i + 1) := by rw [show (1 : Int32) = nI 1 from rfl, nI_add]
  have c1x : (nI (i + 1)).toNatClampNeg = i + 1 := nI_clamp (by omega)
  have e2x : nI i + 2 = nI (i + 2) := by rw [show (2 : Int32) = nI 2 from rfl, nI_add]
  have c2x : (nI (i + 2)).toNatClampNeg = i + 2 := nI_clamp (by omega)
  have e3x : nI i + 3 = nI (i + 3) := by rw [show (3 : Int32) = nI 3 from rfl, nI_add]
  have c3x : (nI (i + 3)).toNatClampNeg = i + 3 := nI_clamp (by omega)
  have e4x : nI i + 4 = nI (i + 4) := by rw [show (4 : Int32) = nI 4 from rfl, nI_add]
  have c4x : (nI (i + 4)).toNatClampNeg = i + 4 := nI_clamp (by omega)
  have e5x : nI i + 5 = nI (i + 5) := by rw [show (5 : Int32) = nI 5 from rfl, nI_add]
  have c5x : (nI (i + 5)).toNatClampNeg = i + 5 := nI_clamp (by omega)
  have hc0 : (0 : Int32).toNatClampNeg = 0 := rfl
  obtain ⟨f64, h64⟩ := cI_k64 h
  have hs := cs_wait l G hst h (xs (i + 1))
  obtain ⟨k9, dw, dm, mc, ms, cl1, mi1, se1, bl1, Q, q1, q2, q3, q4, q5, hw, hmo⟩ := cSs.s (yw := sL_wait) (hh := hL_wait) (Aw := [.ref 64, .int (xs (i + 1)), .ref 143]) h h143 hs (fun d mc ms Po => cw_wait_t l G h64) (fun p hp => by
    simp only [List.mem_cons, List.not_mem_nil, or_false] at hp
    rcases hp with rfl | rfl
    · exact ⟨by decide, fun d => cw_wait_x0 l G h64⟩
    · exact ⟨by decide, fun d => cw_wait_x1 l G h64⟩)
  refine hB bL_law__455 _ _ _ _ _ _ _ kL_law__455 ?_
  dsimp only [bL_law__455, kx_wp, kx_step, kx_lI, kx_lL, kx_lA, kx_gl, kx_pI, kx_pL, kx_pR, kx_pA, kx_pV, kx_s1, kx_s2, kx_sl, kx_pre, kx_c2, kx_pl, kx_cmp, kx_oF, kx_eqN, kx_nil, kx_c1, kx_ft, kx_aI, kx_aL, kx_aR, kx_ln, Nat.reduceAdd, Option.toList, List.cons_append, List.nil_append]
  repeat (simp only [e1x, c1x, e2x, c2x, e3x, c3x, e4x, c4x, e5x, c5x, h3]; try dsimp only [kx_wp, kx_step, kx_lI, kx_lL, kx_lA, kx_gl, kx_pI, kx_pL, kx_pR, kx_pA, kx_pV, kx_s1, kx_s2, kx_sl, kx_pre, kx_c2, kx_pl, kx_cmp, kx_oF, kx_eqN, kx_nil, kx_c1, kx_ft, kx_aI, kx_aL, kx_aR, kx_ln, Nat.reduceAdd, Option.toList, List.cons_append, List.nil_append])
  repeat' apply And.intro
  all_goals try (first | with_reducible assumption | (with_reducible refine ck_nzI ?_; simp; done) | (with_reducible refine ck_nzL ?_; simp; done) | (with_reducible refine vp_in_nI ?_ ?_ <;> first | omega | decide) | (with_reducible refine Nat.le_of_ble_eq_true ?_; rfl) | omega | (unfold vp_in; decide))
  refine hW 142 _ _ _ _ _ _ _ _ _ _ _ _ _ _ _ _ lL_142 hw rfl rfl (Nat.le_of_ble_eq_true rfl) (by omega) (by decide) (by omega) (by omega) dL_law__463 ?_
  rintro r2 P2 s2 ⟨e2, hQ⟩
  rw [e2]
  obtain ⟨⟨fm, h93⟩, h33, hM⟩ := hmo P2 s2 hQ
  have h33 := h33.trans h3
  dsimp only [Option.toList, List.cons_append, List.nil_append]
  refine hB bL_law__466 _ _ _ _ _ _ _ kL_law__466 ?_
  dsimp only [bL_law__466, kx_wp, kx_step, kx_lI, kx_lL, kx_lA, kx_gl, kx_pI, kx_pL, kx_pR, kx_pA, kx_pV, kx_s1, kx_s2, kx_sl, kx_pre, kx_c2, kx_pl, kx_cmp, kx_oF, kx_eqN, kx_nil, kx_c1, kx_ft, kx_aI, kx_aL, kx_aR, kx_ln, Nat.reduceAdd, Option.toList, List.cons_append, List.nil_append]
  repeat (simp only [e1x, c1x, e2x, c2x, e3x, c3x, e4x, c4x, e5x, c5x, h33]; try dsimp only [kx_wp, kx_step, kx_lI, kx_lL, kx_lA, kx_gl, kx_pI, kx_pL, kx_pR, kx_pA, kx_pV, kx_s1, kx_s2, kx_sl, kx_pre, kx_c2, kx_pl, kx_cmp, kx_oF, kx_eqN, kx_nil, kx_c1, kx_ft, kx_aI, kx_aL, kx_aR, kx_ln, Nat.reduceAdd, Option.toList, List.cons_append, List.nil_append])
  repeat' apply And.intro
  all_goals try (first | with_reducible assumption | (with_reducible refine ck_nzI ?_; simp; done) | (with_reducible refine ck_nzL ?_; simp; done) | (with_reducible refine vp_in_nI ?_ ?_ <;> first | omega | decide) | (with_reducible refine Nat.le_of_ble_eq_true ?_; rfl) | omega | (unfold vp_in; decide))
  refine hN.1 144 _ _ _ _ _ _ _ 11 _ _ _ _ _ _ _ _ _ _ lL_144 hM ⟨by decide, rfl⟩ h93 rfl rfl (Nat.le_of_ble_eq_true rfl) (by omega) (by decide) (by omega) (by omega) dL_law__475 ?_
  rintro r3 P3 s3 ⟨e3, v, S2, go2, e4, hT, hk0, hI, h34, h143b, hgo0⟩
  obtain ⟨b9, e5⟩ := hT.2 (by decide)
  subst e5
  rw [e3, e4]
  have h34 := h34.trans h3
  have h93b := cI_93 hI
  have hth := cI_th l G hI
  rw [hk0] at hth
  dsimp only [Option.toList, List.cons_append, List.nil_append]
  refine hB bL_law__478 _ _ _ _ _ _ _ kL_law__478 ?_
  dsimp only [bL_law__478, kx_wp, kx_step, kx_lI, kx_lL, kx_lA, kx_gl, kx_pI, kx_pL, kx_pR, kx_pA, kx_pV, kx_s1, kx_s2, kx_sl, kx_pre, kx_c2, kx_pl, kx_cmp, kx_oF, kx_eqN, kx_nil, kx_c1, kx_ft, kx_aI, kx_aL, kx_aR, kx_ln, Nat.reduceAdd, Option.toList, List.cons_append, List.nil_append]
  repeat (simp only [e1x, c1x, e2x, c2x, e3x, c3x, e4x, c4x, e5x, c5x, h143b, hc0]; try dsimp only [kx_wp, kx_step, kx_lI, kx_lL, kx_lA, kx_gl, kx_pI, kx_pL, kx_pR, kx_pA, kx_pV, kx_s1, kx_s2, kx_sl, kx_pre, kx_c2, kx_pl, kx_cmp, kx_oF, kx_eqN, kx_nil, kx_c1, kx_ft, kx_aI, kx_aL, kx_aR, kx_ln, Nat.reduceAdd, Option.toList, List.cons_append, List.nil_append])
  repeat' apply And.intro
  all_goals try (first | with_reducible assumption | (with_reducible refine ck_nzI ?_; simp; done) | (with_reducible refine ck_nzL ?_; simp; done) | (with_reducible refine vp_in_nI ?_ ?_ <;> first | omega | decide) | (with_reducible refine Nat.le_of_ble_eq_true ?_; rfl) | omega | (unfold vp_in; decide))
  refine hN.1 120 _ _ _ _ _ _ _ 11 _ _ _ _ _ _ _ _ _ _ lL_120 hth.n ⟨by decide, rfl⟩ h93b rfl rfl (Nat.le_of_ble_eq_true rfl) (by omega) (by decide) (by omega) (by omega) dL_law__481 ?_
  rintro r4 P4 s4 ⟨e6, e7, e8⟩
  rw [e6, e7, e8]
  dsimp only [Option.toList, List.cons_append, List.nil_append]
  refine hB bL_law__484 _ _ _ _ _ _ _ kL_law__484 ?_
  dsimp only [bL_law__484, kx_wp, kx_step, kx_lI, kx_lL, kx_lA, kx_gl, kx_pI, kx_pL, kx_pR, kx_pA, kx_pV, kx_s1, kx_s2, kx_sl, kx_pre, kx_c2, kx_pl, kx_cmp, kx_oF, kx_eqN, kx_nil, kx_c1, kx_ft, kx_aI, kx_aL, kx_aR, kx_ln, Nat.reduceAdd, Option.toList, List.cons_append, List.nil_append]
  repeat (simp only [e1x, c1x, e2x, c2x, e3x, c3x, e4x, c4x, e5x, c5x, h143b, hc0]; try dsimp only [kx_wp, kx_step, kx_lI, kx_lL, kx_lA, kx_gl, kx_pI, kx_pL, kx_pR, kx_pA, kx_pV, kx_s1, kx_s2, kx_sl, kx_pre, kx_c2, kx_pl, kx_cmp, kx_oF, kx_eqN, kx_nil, kx_c1, kx_ft, kx_aI, kx_aL, kx_aR, kx_ln, Nat.reduceAdd, Option.toList, List.cons_append, List.nil_append])
  repeat' apply And.intro
  all_goals try (first | with_reducible assumption | (with_reducible refine ck_nzI ?_; simp; done) | (with_reducible refine ck_nzL ?_; simp; done) | (with_reducible refine vp_in_nI ?_ ?_ <;> first | omega | decide) | (with_reducible refine Nat.le_of_ble_eq_true ?_; rfl) | omega | (unfold vp_in; decide))
  · intro zc486
    refine hB bL_law__491 _ _ _ _ _ _ _ kL_law__491 ?_
    dsimp only [bL_law__491, kx_wp, kx_step, kx_lI, kx_lL, kx_lA, kx_gl, kx_pI, kx_pL, kx_pR, kx_pA, kx_pV, kx_s1, kx_s2, kx_sl, kx_pre, kx_c2, kx_pl, kx_cmp, kx_oF, kx_eqN, kx_nil, kx_c1, kx_ft, kx_aI, kx_aL, kx_aR, kx_ln, Nat.reduceAdd, Option.toList, List.cons_append, List.nil_append]
    repeat (simp only [e1x, c1x, e2x, c2x, e3x, c3x, e4x, c4x, e5x, c5x, h143b, hc0]; try dsimp only [kx_wp, kx_step, kx_lI, kx_lL, kx_lA, kx_gl, kx_pI, kx_pL, kx_pR, kx_pA, kx_pV, kx_s1, kx_s2, kx_sl, kx_pre, kx_c2, kx_pl, kx_cmp, kx_oF, kx_eqN, kx_nil, kx_c1, kx_ft, kx_aI, kx_aL, kx_aR, kx_ln, Nat.reduceAdd, Option.toList, List.cons_append, List.nil_append])
    repeat' apply And.intro
    all_goals try (first | with_reducible assumption | (with_reducible refine ck_nzI ?_; simp; done) | (with_reducible refine ck_nzL ?_; simp; done) | (with_reducible refine vp_in_nI ?_ ?_ <;> first | omega | decide) | (with_reducible refine Nat.le_of_ble_eq_true ?_; rfl) | omega | (unfold vp_in; decide))
    · intro zc493
      refine hB bL_law__508 _ _ _ _ _ _ _ kL_law__508 ?_
      dsimp only [bL_law__508, kx_wp, kx_step, kx_lI, kx_lL, kx_lA, kx_gl, kx_pI, kx_pL, kx_pR, kx_pA, kx_pV, kx_s1, kx_s2, kx_sl, kx_pre, kx_c2, kx_pl, kx_cmp, kx_oF, kx_eqN, kx_nil, kx_c1, kx_ft, kx_aI, kx_aL, kx_aR, kx_ln, Nat.reduceAdd, Option.toList, List.cons_append, List.nil_append]
      repeat (simp only [e1x, c1x, e2x, c2x, e3x, c3x, e4x, c4x, e5x, c5x, h143b, hc0]; try dsimp only [kx_wp, kx_step, kx_lI, kx_lL, kx_lA, kx_gl, kx_pI, kx_pL, kx_pR, kx_pA, kx_pV, kx_s1, kx_s2, kx_sl, kx_pre, kx_c2, kx_pl, kx_cmp, kx_oF, kx_eqN, kx_nil, kx_c1, kx_ft, kx_aI, kx_aL, kx_aR, kx_ln, Nat.reduceAdd, Option.toList, List.cons_append, List.nil_append])
      repeat' apply And.intro
      all_goals try (first | with_reducible assumption | (with_reducible refine ck_nzI ?_; simp; done) | (with_reducible refine ck_nzL ?_; simp; done) | (with_reducible refine vp_in_nI ?_ ?_ <;> first | omega | decide) | (with_reducible refine Nat.le_of_ble_eq_true ?_; rfl) | omega | (unfold vp_in; decide))
      exact hgo P3 s2 S2 cl1 mi1 se1 bl1 go2 _ _ _ _ _ hI h34 h143b (by omega) (by omega) (by omega)
    · intro zc493
      refine hB bL_law__496 _ _ _ _ _ _ _ kL_law__496 ?_
      dsimp only [bL_law__496, kx_wp, kx_step, kx_lI, kx_lL, kx_lA, kx_gl, kx_pI, kx_pL, kx_pR, kx_pA, kx_pV, kx_s1, kx_s2, kx_sl, kx_pre, kx_c2, kx_pl, kx_cmp, kx_oF, kx_eqN, kx_nil, kx_c1, kx_ft, kx_aI, kx_aL, kx_aR, kx_ln, Nat.reduceAdd, Option.toList, List.cons_append, List.nil_append]
      repeat (simp only [e1x, c1x, e2x, c2x, e3x, c3x, e4x, c4x, e5x, c5x, h143b, hc0]; try dsimp only [kx_wp, kx_step, kx_lI, kx_lL, kx_lA, kx_gl, kx_pI, kx_pL, kx_pR, kx_pA, kx_pV, kx_s1, kx_s2, kx_sl, kx_pre, kx_c2, kx_pl, kx_cmp, kx_oF, kx_eqN, kx_nil, kx_c1, kx_ft, kx_aI, kx_aL, kx_aR, kx_ln, Nat.reduceAdd, Option.toList, List.cons_append, List.nil_append])
      repeat' apply And.intro
      all_goals try (first | with_reducible assumption | (with_reducible refine ck_nzI ?_; simp; done) | (with_reducible refine ck_nzL ?_; simp; done) | (with_reducible refine vp_in_nI ?_ ?_ <;> first | omega | decide) | (with_reducible refine Nat.le_of_ble_eq_true ?_; rfl) | omega | (unfold vp_in; decide))
      · intro zc503
        refine hB bL_law__508 _ _ _ _ _ _ _ kL_law__508 ?_
        dsimp only [bL_law__508, kx_wp, kx_step, kx_lI, kx_lL, kx_lA, kx_gl, kx_pI, kx_pL, kx_pR, kx_pA, kx_pV, kx_s1, kx_s2, kx_sl, kx_pre, kx_c2, kx_pl, kx_cmp, kx_oF, kx_eqN, kx_nil, kx_c1, kx_ft, kx_aI, kx_aL, kx_aR, kx_ln, Nat.reduceAdd, Option.toList, List.cons_append, List.nil_append]
        repeat (simp only [e1x, c1x, e2x, c2x, e3x, c3x, e4x, c4x, e5x, c5x, h143b, hc0]; try dsimp only [kx_wp, kx_step, kx_lI, kx_lL, kx_lA, kx_gl, kx_pI, kx_pL, kx_pR, kx_pA, kx_pV, kx_s1, kx_s2, kx_sl, kx_pre, kx_c2, kx_pl, kx_cmp, kx_oF, kx_eqN, kx_nil, kx_c1, kx_ft, kx_aI, kx_aL, kx_aR, kx_ln, Nat.reduceAdd, Option.toList, List.cons_append, List.nil_append])
        repeat' apply And.intro
        all_goals try (first | with_reducible assumption | (with_reducible refine ck_nzI ?_; simp; done) | (with_reducible refine ck_nzL ?_; simp; done) | (with_reducible refine vp_in_nI ?_ ?_ <;> first | omega | decide) | (with_reducible refine Nat.le_of_ble_eq_true ?_; rfl) | omega | (unfold vp_in; decide))
        exact hgo P3 s2 S2 cl1 mi1 se1 bl1 go2 _ _ _ _ _ hI h34 h143b (by omega) (by omega) (by omega)
      · intro zc503
        first | exact absurd rfl zc503 | exact absurd zc503 (by decide) | exact absurd (by decide) zc503 | (exfalso; first | exact zc503 (by rw [hgo0 (Decidable.not_not.mp zc493)]; exact lg_cmp_s _)) | (exfalso; simp_all; done)
  · intro zc486
    first | exact absurd rfl zc486 | exact absurd zc486 (by decide) | exact absurd (by decide) zc486 | (exfalso; first | exact zc503 (by rw [hgo0 (Decidable.not_not.mp zc493)]; exact lg_cmp_s _)) | (exfalso; simp_all; done)

set_option maxRecDepth 100000 in
set_option maxHeartbeats 4000000 in
theorem cj_dial (l : Launch) (G : kx_G) (hst : l.stackTraces = false) {P : kx_P} {sz : Nat} {M : Nat → Int32} {A : Nat → Nat → Int32} {L : Nat → Nat → Int64} {cl mi se : Nat} {bl : Nat → Nat} {go : Nat → Int64} {Ln i k n : Nat} {xs : Nat → Int32} {o5 o6 o7 : Option Value} {g : kx_F} (h : cI P sz (M, A, L) cl mi se bl) (h3 : P 3 = kI 5 Ln xs) (h143 : P 143 = kL 1 go) (hi : i + 6 ≤ Ln) (hL : Ln ≤ 3072) (hk : k + 8 ≤ 601024) (hn : n + cro bl + 2206 ≤ 7293033) (hse : se ≤ 999) (hB : kx_rB kxL_L false cL_law_ 601024 7293033 (fun r _ _ => r = some (.int 1)) g) (hN : kx_rN l G RL cL_law_ 60 601024 7293033 g) (hW : kx_rW l G RL cL_law_ 60 601024 7293033 g) (hgo : cAf g Ln xs i se k n bl) : g 511 [some (.ref 3), some (.ref 64), some (.ref 93), some (.ref 143), some (.int (nI i)), o5, o6, o7] [] P sz k n := by
  have e1x : nI i + 1 = nI (i + 1) := by rw [show (1 : Int32) = nI 1 from rfl, nI_add]
  have c1x : (nI (i + 1)).toNatClampNeg = i + 1 := nI_clamp (by omega)
  have e2x : nI i + 2 = nI (i + 2) := by rw [show (2 : Int32) = nI 2 from rfl, nI_add]
  have c2x : (nI (i + 2)).toNatClampNeg = i + 2 := nI_clamp (by omega)
  have e3x : nI i + 3 = nI (i + 3) := by rw [show (3 : Int32) = nI 3 from rfl, nI_add]
  have c3x : (nI (i + 3)).toNatClampNeg = i + 3 := nI_clamp (by omega)
  have e4x : nI i + 4 = nI (i + 4) := by rw [show (4 : Int32) = nI 4 from rfl, nI_add]
  have c4x : (nI (i + 4)).toNatClampNeg = i + 4 := nI_clamp (by omega)
  have e5x : nI i + 5 = nI (i + 5) := by rw [show (5 : Int32) = nI 5 from rfl, nI_add]
  have c5x : (nI (i + 5)).toNatClampNeg = i + 5 := nI_clamp (by omega)
  have hc0 : (0 : Int32).toNatClampNeg = 0 := rfl
  obtain ⟨f64, h64⟩ := cI_k64 h
  have hs := cs_dial l G hst h (xs (i + 1))
  obtain ⟨k9, dw, dm, mc, ms, cl1, mi1, se1, bl1, Q, q1, q2, q3, q4, q5, hw, hmo⟩ := cSs.s (yw := sL_dial) (hh := hL_dial) (Aw := [.ref 64, .int (xs (i + 1)), .ref 143]) h h143 hs (fun d mc ms Po => cw_dial_t l G h64) (fun p hp => by
    simp only [List.mem_cons, List.not_mem_nil, or_false] at hp
    rcases hp with rfl
    · exact ⟨by decide, fun d => cw_dial_x0 l G h64⟩)
  refine hB bL_law__511 _ _ _ _ _ _ _ kL_law__511 ?_
  dsimp only [bL_law__511, kx_wp, kx_step, kx_lI, kx_lL, kx_lA, kx_gl, kx_pI, kx_pL, kx_pR, kx_pA, kx_pV, kx_s1, kx_s2, kx_sl, kx_pre, kx_c2, kx_pl, kx_cmp, kx_oF, kx_eqN, kx_nil, kx_c1, kx_ft, kx_aI, kx_aL, kx_aR, kx_ln, Nat.reduceAdd, Option.toList, List.cons_append, List.nil_append]
  repeat (simp only [e1x, c1x, e2x, c2x, e3x, c3x, e4x, c4x, e5x, c5x, h3]; try dsimp only [kx_wp, kx_step, kx_lI, kx_lL, kx_lA, kx_gl, kx_pI, kx_pL, kx_pR, kx_pA, kx_pV, kx_s1, kx_s2, kx_sl, kx_pre, kx_c2, kx_pl, kx_cmp, kx_oF, kx_eqN, kx_nil, kx_c1, kx_ft, kx_aI, kx_aL, kx_aR, kx_ln, Nat.reduceAdd, Option.toList, List.cons_append, List.nil_append])
  repeat' apply And.intro
  all_goals try (first | with_reducible assumption | (with_reducible refine ck_nzI ?_; simp; done) | (with_reducible refine ck_nzL ?_; simp; done) | (with_reducible refine vp_in_nI ?_ ?_ <;> first | omega | decide) | (with_reducible refine Nat.le_of_ble_eq_true ?_; rfl) | omega | (unfold vp_in; decide))
  refine hW 145 _ _ _ _ _ _ _ _ _ _ _ _ _ _ _ _ lL_145 hw rfl rfl (Nat.le_of_ble_eq_true rfl) (by omega) (by decide) (by omega) (by omega) dL_law__519 ?_
  rintro r2 P2 s2 ⟨e2, hQ⟩
  rw [e2]
  obtain ⟨⟨fm, h93⟩, h33, hM⟩ := hmo P2 s2 hQ
  have h33 := h33.trans h3
  dsimp only [Option.toList, List.cons_append, List.nil_append]
  refine hB bL_law__522 _ _ _ _ _ _ _ kL_law__522 ?_
  dsimp only [bL_law__522, kx_wp, kx_step, kx_lI, kx_lL, kx_lA, kx_gl, kx_pI, kx_pL, kx_pR, kx_pA, kx_pV, kx_s1, kx_s2, kx_sl, kx_pre, kx_c2, kx_pl, kx_cmp, kx_oF, kx_eqN, kx_nil, kx_c1, kx_ft, kx_aI, kx_aL, kx_aR, kx_ln, Nat.reduceAdd, Option.toList, List.cons_append, List.nil_append]
  repeat (simp only [e1x, c1x, e2x, c2x, e3x, c3x, e4x, c4x, e5x, c5x, h33]; try dsimp only [kx_wp, kx_step, kx_lI, kx_lL, kx_lA, kx_gl, kx_pI, kx_pL, kx_pR, kx_pA, kx_pV, kx_s1, kx_s2, kx_sl, kx_pre, kx_c2, kx_pl, kx_cmp, kx_oF, kx_eqN, kx_nil, kx_c1, kx_ft, kx_aI, kx_aL, kx_aR, kx_ln, Nat.reduceAdd, Option.toList, List.cons_append, List.nil_append])
  repeat' apply And.intro
  all_goals try (first | with_reducible assumption | (with_reducible refine ck_nzI ?_; simp; done) | (with_reducible refine ck_nzL ?_; simp; done) | (with_reducible refine vp_in_nI ?_ ?_ <;> first | omega | decide) | (with_reducible refine Nat.le_of_ble_eq_true ?_; rfl) | omega | (unfold vp_in; decide))
  refine hN.1 147 _ _ _ _ _ _ _ 11 _ _ _ _ _ _ _ _ _ _ lL_147 hM ⟨by decide, rfl⟩ h93 rfl rfl (Nat.le_of_ble_eq_true rfl) (by omega) (by decide) (by omega) (by omega) dL_law__531 ?_
  rintro r3 P3 s3 ⟨e3, v, S2, go2, e4, hT, hk0, hI, h34, h143b, hgo0⟩
  obtain ⟨b9, e5⟩ := hT.2 (by decide)
  subst e5
  rw [e3, e4]
  have h34 := h34.trans h3
  have h93b := cI_93 hI
  have hth := cI_th l G hI
  rw [hk0] at hth
  dsimp only [Option.toList, List.cons_append, List.nil_append]
  refine hB bL_law__534 _ _ _ _ _ _ _ kL_law__534 ?_
  dsimp only [bL_law__534, kx_wp, kx_step, kx_lI, kx_lL, kx_lA, kx_gl, kx_pI, kx_pL, kx_pR, kx_pA, kx_pV, kx_s1, kx_s2, kx_sl, kx_pre, kx_c2, kx_pl, kx_cmp, kx_oF, kx_eqN, kx_nil, kx_c1, kx_ft, kx_aI, kx_aL, kx_aR, kx_ln, Nat.reduceAdd, Option.toList, List.cons_append, List.nil_append]
  repeat (simp only [e1x, c1x, e2x, c2x, e3x, c3x, e4x, c4x, e5x, c5x, h143b, hc0]; try dsimp only [kx_wp, kx_step, kx_lI, kx_lL, kx_lA, kx_gl, kx_pI, kx_pL, kx_pR, kx_pA, kx_pV, kx_s1, kx_s2, kx_sl, kx_pre, kx_c2, kx_pl, kx_cmp, kx_oF, kx_eqN, kx_nil, kx_c1, kx_ft, kx_aI, kx_aL, kx_aR, kx_ln, Nat.reduceAdd, Option.toList, List.cons_append, List.nil_append])
  repeat' apply And.intro
  all_goals try (first | with_reducible assumption | (with_reducible refine ck_nzI ?_; simp; done) | (with_reducible refine ck_nzL ?_; simp; done) | (with_reducible refine vp_in_nI ?_ ?_ <;> first | omega | decide) | (with_reducible refine Nat.le_of_ble_eq_true ?_; rfl) | omega | (unfold vp_in; decide))
  refine hN.1 120 _ _ _ _ _ _ _ 11 _ _ _ _ _ _ _ _ _ _ lL_120 hth.n ⟨by decide, rfl⟩ h93b rfl rfl (Nat.le_of_ble_eq_true rfl) (by omega) (by decide) (by omega) (by omega) dL_law__537 ?_
  rintro r4 P4 s4 ⟨e6, e7, e8⟩
  rw [e6, e7, e8]
  dsimp only [Option.toList, List.cons_append, List.nil_append]
  refine hB bL_law__540 _ _ _ _ _ _ _ kL_law__540 ?_
  dsimp only [bL_law__540, kx_wp, kx_step, kx_lI, kx_lL, kx_lA, kx_gl, kx_pI, kx_pL, kx_pR, kx_pA, kx_pV, kx_s1, kx_s2, kx_sl, kx_pre, kx_c2, kx_pl, kx_cmp, kx_oF, kx_eqN, kx_nil, kx_c1, kx_ft, kx_aI, kx_aL, kx_aR, kx_ln, Nat.reduceAdd, Option.toList, List.cons_append, List.nil_append]
  repeat (simp only [e1x, c1x, e2x, c2x, e3x, c3x, e4x, c4x, e5x, c5x, h143b, hc0]; try dsimp only [kx_wp, kx_step, kx_lI, kx_lL, kx_lA, kx_gl, kx_pI, kx_pL, kx_pR, kx_pA, kx_pV, kx_s1, kx_s2, kx_sl, kx_pre, kx_c2, kx_pl, kx_cmp, kx_oF, kx_eqN, kx_nil, kx_c1, kx_ft, kx_aI, kx_aL, kx_aR, kx_ln, Nat.reduceAdd, Option.toList, List.cons_append, List.nil_append])
  repeat' apply And.intro
  all_goals try (first | with_reducible assumption | (with_reducible refine ck_nzI ?_; simp; done) | (with_reducible refine ck_nzL ?_; simp; done) | (with_reducible refine vp_in_nI ?_ ?_ <;> first | omega | decide) | (with_reducible refine Nat.le_of_ble_eq_true ?_; rfl) | omega | (unfold vp_in; decide))
  · intro zc542
    refine hB bL_law__547 _ _ _ _ _ _ _ kL_law__547 ?_
    dsimp only [bL_law__547, kx_wp, kx_step, kx_lI, kx_lL, kx_lA, kx_gl, kx_pI, kx_pL, kx_pR, kx_pA, kx_pV, kx_s1, kx_s2, kx_sl, kx_pre, kx_c2, kx_pl, kx_cmp, kx_oF, kx_eqN, kx_nil, kx_c1, kx_ft, kx_aI, kx_aL, kx_aR, kx_ln, Nat.reduceAdd, Option.toList, List.cons_append, List.nil_append]
    repeat (simp only [e1x, c1x, e2x, c2x, e3x, c3x, e4x, c4x, e5x, c5x, h143b, hc0]; try dsimp only [kx_wp, kx_step, kx_lI, kx_lL, kx_lA, kx_gl, kx_pI, kx_pL, kx_pR, kx_pA, kx_pV, kx_s1, kx_s2, kx_sl, kx_pre, kx_c2, kx_pl, kx_cmp, kx_oF, kx_eqN, kx_nil, kx_c1, kx_ft, kx_aI, kx_aL, kx_aR, kx_ln, Nat.reduceAdd, Option.toList, List.cons_append, List.nil_append])
    repeat' apply And.intro
    all_goals try (first | with_reducible assumption | (with_reducible refine ck_nzI ?_; simp; done) | (with_reducible refine ck_nzL ?_; simp; done) | (with_reducible refine vp_in_nI ?_ ?_ <;> first | omega | decide) | (with_reducible refine Nat.le_of_ble_eq_true ?_; rfl) | omega | (unfold vp_in; decide))
    · intro zc549
      refine hB bL_law__564 _ _ _ _ _ _ _ kL_law__564 ?_
      dsimp only [bL_law__564, kx_wp, kx_step, kx_lI, kx_lL, kx_lA, kx_gl, kx_pI, kx_pL, kx_pR, kx_pA, kx_pV, kx_s1, kx_s2, kx_sl, kx_pre, kx_c2, kx_pl, kx_cmp, kx_oF, kx_eqN, kx_nil, kx_c1, kx_ft, kx_aI, kx_aL, kx_aR, kx_ln, Nat.reduceAdd, Option.toList, List.cons_append, List.nil_append]
      repeat (simp only [e1x, c1x, e2x, c2x, e3x, c3x, e4x, c4x, e5x, c5x, h143b, hc0]; try dsimp only [kx_wp, kx_step, kx_lI, kx_lL, kx_lA, kx_gl, kx_pI, kx_pL, kx_pR, kx_pA, kx_pV, kx_s1, kx_s2, kx_sl, kx_pre, kx_c2, kx_pl, kx_cmp, kx_oF, kx_eqN, kx_nil, kx_c1, kx_ft, kx_aI, kx_aL, kx_aR, kx_ln, Nat.reduceAdd, Option.toList, List.cons_append, List.nil_append])
      repeat' apply And.intro
      all_goals try (first | with_reducible assumption | (with_reducible refine ck_nzI ?_; simp; done) | (with_reducible refine ck_nzL ?_; simp; done) | (with_reducible refine vp_in_nI ?_ ?_ <;> first | omega | decide) | (with_reducible refine Nat.le_of_ble_eq_true ?_; rfl) | omega | (unfold vp_in; decide))
      exact hgo P3 s2 S2 cl1 mi1 se1 bl1 go2 _ _ _ _ _ hI h34 h143b (by omega) (by omega) (by omega)
    · intro zc549
      refine hB bL_law__552 _ _ _ _ _ _ _ kL_law__552 ?_
      dsimp only [bL_law__552, kx_wp, kx_step, kx_lI, kx_lL, kx_lA, kx_gl, kx_pI, kx_pL, kx_pR, kx_pA, kx_pV, kx_s1, kx_s2, kx_sl, kx_pre, kx_c2, kx_pl, kx_cmp, kx_oF, kx_eqN, kx_nil, kx_c1, kx_ft, kx_aI, kx_aL, kx_aR, kx_ln, Nat.reduceAdd, Option.toList, List.cons_append, List.nil_append]
      repeat (simp only [e1x, c1x, e2x, c2x, e3x, c3x, e4x, c4x, e5x, c5x, h143b, hc0]; try dsimp only [kx_wp, kx_step, kx_lI, kx_lL, kx_lA, kx_gl, kx_pI, kx_pL, kx_pR, kx_pA, kx_pV, kx_s1, kx_s2, kx_sl, kx_pre, kx_c2, kx_pl, kx_cmp, kx_oF, kx_eqN, kx_nil, kx_c1, kx_ft, kx_aI, kx_aL, kx_aR, kx_ln, Nat.reduceAdd, Option.toList, List.cons_append, List.nil_append])
      repeat' apply And.intro
      all_goals try (first | with_reducible assumption | (with_reducible refine ck_nzI ?_; simp; done) | (with_reducible refine ck_nzL ?_; simp; done) | (with_reducible refine vp_in_nI ?_ ?_ <;> first | omega | decide) | (with_reducible refine Nat.le_of_ble_eq_true ?_; rfl) | omega | (unfold vp_in; decide))
      · intro zc559
        refine hB bL_law__564 _ _ _ _ _ _ _ kL_law__564 ?_
        dsimp only [bL_law__564, kx_wp, kx_step, kx_lI, kx_lL, kx_lA, kx_gl, kx_pI, kx_pL, kx_pR, kx_pA, kx_pV, kx_s1, kx_s2, kx_sl, kx_pre, kx_c2, kx_pl, kx_cmp, kx_oF, kx_eqN, kx_nil, kx_c1, kx_ft, kx_aI, kx_aL, kx_aR, kx_ln, Nat.reduceAdd, Option.toList, List.cons_append, List.nil_append]
        repeat (simp only [e1x, c1x, e2x, c2x, e3x, c3x, e4x, c4x, e5x, c5x, h143b, hc0]; try dsimp only [kx_wp, kx_step, kx_lI, kx_lL, kx_lA, kx_gl, kx_pI, kx_pL, kx_pR, kx_pA, kx_pV, kx_s1, kx_s2, kx_sl, kx_pre, kx_c2, kx_pl, kx_cmp, kx_oF, kx_eqN, kx_nil, kx_c1, kx_ft, kx_aI, kx_aL, kx_aR, kx_ln, Nat.reduceAdd, Option.toList, List.cons_append, List.nil_append])
        repeat' apply And.intro
        all_goals try (first | with_reducible assumption | (with_reducible refine ck_nzI ?_; simp; done) | (with_reducible refine ck_nzL ?_; simp; done) | (with_reducible refine vp_in_nI ?_ ?_ <;> first | omega | decide) | (with_reducible refine Nat.le_of_ble_eq_true ?_; rfl) | omega | (unfold vp_in; decide))
        exact hgo P3 s2 S2 cl1 mi1 se1 bl1 go2 _ _ _ _ _ hI h34 h143b (by omega) (by omega) (by omega)
      · intro zc559
        first | exact absurd rfl zc559 | exact absurd zc559 (by decide) | exact absurd (by decide) zc559 | (exfalso; first | exact zc559 (by rw [hgo0 (Decidable.not_not.mp zc549)]; exact lg_cmp_s _)) | (exfalso; simp_all; done)
  · intro zc542
    first | exact absurd rfl zc542 | exact absurd zc542 (by decide) | exact absurd (by decide) zc542 | (exfalso; first | exact zc559 (by rw [hgo0 (Decidable.not_not.mp zc549)]; exact lg_cmp_s _)) | (exfalso; simp_all; done)

set_option maxRecDepth 100000 in
set_option maxHeartbeats 4000000 in
theorem cj_error (l : Launch) (G : kx_G) (hst : l.stackTraces = false) {P : kx_P} {sz : Nat} {M : Nat → Int32} {A : Nat → Nat → Int32} {L : Nat → Nat → Int64} {cl mi se : Nat} {bl : Nat → Nat} {go : Nat → Int64} {Ln i k n : Nat} {xs : Nat → Int32} {o5 o6 o7 : Option Value} {g : kx_F} (h : cI P sz (M, A, L) cl mi se bl) (h3 : P 3 = kI 5 Ln xs) (h143 : P 143 = kL 1 go) (hi : i + 6 ≤ Ln) (hL : Ln ≤ 3072) (hk : k + 8 ≤ 601024) (hn : n + cro bl + 2206 ≤ 7293033) (hse : se ≤ 999) (hB : kx_rB kxL_L false cL_law_ 601024 7293033 (fun r _ _ => r = some (.int 1)) g) (hN : kx_rN l G RL cL_law_ 60 601024 7293033 g) (hW : kx_rW l G RL cL_law_ 60 601024 7293033 g) (hgo : cAf g Ln xs i se k n bl) : g 567 [some (.ref 3), some (.ref 64), some (.ref 93), some (.ref 143), some (.int (nI i)), o5, o6, o7] [] P sz k n := by
  have e1x : nI i + 1 = nI (i + 1) := by rw [show (1 : Int32) = nI 1 from rfl, nI_add]
  have c1x : (nI (i + 1)).toNatClampNeg = i + 1 := nI_clamp (by omega)
  have e2x : nI i + 2 = nI (i + 2) := by rw [show (2 : Int32) = nI 2 from rfl, nI_add]
  have c2x : (nI (i + 2)).toNatClampNeg = i + 2 := nI_clamp (by omega)
  have e3x : nI i + 3 = nI (i + 3) := by rw [show (3 : Int32) = nI 3 from rfl, nI_add]
  have c3x : (nI (i + 3)).toNatClampNeg = i + 3 := nI_clamp (by omega)
  have e4x : nI i + 4 = nI (i + 4) := by rw [show (4 : Int32) = nI 4 from rfl, nI_add]
  have c4x : (nI (i + 4)).toNatClampNeg = i + 4 := nI_clamp (by omega)
  have e5x : nI i + 5 = nI (i + 5) := by rw [show (5 : Int32) = nI 5 from rfl, nI_add]
  have c5x : (nI (i + 5)).toNatClampNeg = i + 5 := nI_clamp (by omega)
  have hc0 : (0 : Int32).toNatClampNeg = 0 := rfl
  obtain ⟨f64, h64⟩ := cI_k64 h
  have hs := cs_error l G hst h (xs (i + 1))
  obtain ⟨k9, dw, dm, mc, ms, cl1, mi1, se1, bl1, Q, q1, q2, q3, q4, q5, hw, hmo⟩ := cSs.s (yw := sL_error) (hh := hL_error) (Aw := [.ref 64, .int (xs (i + 1)), .ref 143]) h h143 hs (fun d mc ms Po => cw_error_t l G h64) (fun p hp => by
    simp only [List.mem_cons, List.not_mem_nil, or_false] at hp
    rcases hp with rfl
    · exact ⟨by decide, fun d => cw_error_x0 l G h64⟩)
  refine hB bL_law__567 _ _ _ _ _ _ _ kL_law__567 ?_
  dsimp only [bL_law__567, kx_wp, kx_step, kx_lI, kx_lL, kx_lA, kx_gl, kx_pI, kx_pL, kx_pR, kx_pA, kx_pV, kx_s1, kx_s2, kx_sl, kx_pre, kx_c2, kx_pl, kx_cmp, kx_oF, kx_eqN, kx_nil, kx_c1, kx_ft, kx_aI, kx_aL, kx_aR, kx_ln, Nat.reduceAdd, Option.toList, List.cons_append, List.nil_append]
  repeat (simp only [e1x, c1x, e2x, c2x, e3x, c3x, e4x, c4x, e5x, c5x, h3]; try dsimp only [kx_wp, kx_step, kx_lI, kx_lL, kx_lA, kx_gl, kx_pI, kx_pL, kx_pR, kx_pA, kx_pV, kx_s1, kx_s2, kx_sl, kx_pre, kx_c2, kx_pl, kx_cmp, kx_oF, kx_eqN, kx_nil, kx_c1, kx_ft, kx_aI, kx_aL, kx_aR, kx_ln, Nat.reduceAdd, Option.toList, List.cons_append, List.nil_append])
  repeat' apply And.intro
  all_goals try (first | with_reducible assumption | (with_reducible refine ck_nzI ?_; simp; done) | (with_reducible refine ck_nzL ?_; simp; done) | (with_reducible refine vp_in_nI ?_ ?_ <;> first | omega | decide) | (with_reducible refine Nat.le_of_ble_eq_true ?_; rfl) | omega | (unfold vp_in; decide))
  refine hW 148 _ _ _ _ _ _ _ _ _ _ _ _ _ _ _ _ lL_148 hw rfl rfl (Nat.le_of_ble_eq_true rfl) (by omega) (by decide) (by omega) (by omega) dL_law__575 ?_
  rintro r2 P2 s2 ⟨e2, hQ⟩
  rw [e2]
  obtain ⟨⟨fm, h93⟩, h33, hM⟩ := hmo P2 s2 hQ
  have h33 := h33.trans h3
  dsimp only [Option.toList, List.cons_append, List.nil_append]
  refine hB bL_law__578 _ _ _ _ _ _ _ kL_law__578 ?_
  dsimp only [bL_law__578, kx_wp, kx_step, kx_lI, kx_lL, kx_lA, kx_gl, kx_pI, kx_pL, kx_pR, kx_pA, kx_pV, kx_s1, kx_s2, kx_sl, kx_pre, kx_c2, kx_pl, kx_cmp, kx_oF, kx_eqN, kx_nil, kx_c1, kx_ft, kx_aI, kx_aL, kx_aR, kx_ln, Nat.reduceAdd, Option.toList, List.cons_append, List.nil_append]
  repeat (simp only [e1x, c1x, e2x, c2x, e3x, c3x, e4x, c4x, e5x, c5x, h33]; try dsimp only [kx_wp, kx_step, kx_lI, kx_lL, kx_lA, kx_gl, kx_pI, kx_pL, kx_pR, kx_pA, kx_pV, kx_s1, kx_s2, kx_sl, kx_pre, kx_c2, kx_pl, kx_cmp, kx_oF, kx_eqN, kx_nil, kx_c1, kx_ft, kx_aI, kx_aL, kx_aR, kx_ln, Nat.reduceAdd, Option.toList, List.cons_append, List.nil_append])
  repeat' apply And.intro
  all_goals try (first | with_reducible assumption | (with_reducible refine ck_nzI ?_; simp; done) | (with_reducible refine ck_nzL ?_; simp; done) | (with_reducible refine vp_in_nI ?_ ?_ <;> first | omega | decide) | (with_reducible refine Nat.le_of_ble_eq_true ?_; rfl) | omega | (unfold vp_in; decide))
  refine hN.1 150 _ _ _ _ _ _ _ 11 _ _ _ _ _ _ _ _ _ _ lL_150 hM ⟨by decide, rfl⟩ h93 rfl rfl (Nat.le_of_ble_eq_true rfl) (by omega) (by decide) (by omega) (by omega) dL_law__587 ?_
  rintro r3 P3 s3 ⟨e3, v, S2, go2, e4, hT, hk0, hI, h34, h143b, hgo0⟩
  obtain ⟨b9, e5⟩ := hT.2 (by decide)
  subst e5
  rw [e3, e4]
  have h34 := h34.trans h3
  have h93b := cI_93 hI
  have hth := cI_th l G hI
  rw [hk0] at hth
  dsimp only [Option.toList, List.cons_append, List.nil_append]
  refine hB bL_law__590 _ _ _ _ _ _ _ kL_law__590 ?_
  dsimp only [bL_law__590, kx_wp, kx_step, kx_lI, kx_lL, kx_lA, kx_gl, kx_pI, kx_pL, kx_pR, kx_pA, kx_pV, kx_s1, kx_s2, kx_sl, kx_pre, kx_c2, kx_pl, kx_cmp, kx_oF, kx_eqN, kx_nil, kx_c1, kx_ft, kx_aI, kx_aL, kx_aR, kx_ln, Nat.reduceAdd, Option.toList, List.cons_append, List.nil_append]
  repeat (simp only [e1x, c1x, e2x, c2x, e3x, c3x, e4x, c4x, e5x, c5x, h143b, hc0]; try dsimp only [kx_wp, kx_step, kx_lI, kx_lL, kx_lA, kx_gl, kx_pI, kx_pL, kx_pR, kx_pA, kx_pV, kx_s1, kx_s2, kx_sl, kx_pre, kx_c2, kx_pl, kx_cmp, kx_oF, kx_eqN, kx_nil, kx_c1, kx_ft, kx_aI, kx_aL, kx_aR, kx_ln, Nat.reduceAdd, Option.toList, List.cons_append, List.nil_append])
  repeat' apply And.intro
  all_goals try (first | with_reducible assumption | (with_reducible refine ck_nzI ?_; simp; done) | (with_reducible refine ck_nzL ?_; simp; done) | (with_reducible refine vp_in_nI ?_ ?_ <;> first | omega | decide) | (with_reducible refine Nat.le_of_ble_eq_true ?_; rfl) | omega | (unfold vp_in; decide))
  refine hN.1 120 _ _ _ _ _ _ _ 11 _ _ _ _ _ _ _ _ _ _ lL_120 hth.n ⟨by decide, rfl⟩ h93b rfl rfl (Nat.le_of_ble_eq_true rfl) (by omega) (by decide) (by omega) (by omega) dL_law__593 ?_
  rintro r4 P4 s4 ⟨e6, e7, e8⟩
  rw [e6, e7, e8]
  dsimp only [Option.toList, List.cons_append, List.nil_append]
  refine hB bL_law__596 _ _ _ _ _ _ _ kL_law__596 ?_
  dsimp only [bL_law__596, kx_wp, kx_step, kx_lI, kx_lL, kx_lA, kx_gl, kx_pI, kx_pL, kx_pR, kx_pA, kx_pV, kx_s1, kx_s2, kx_sl, kx_pre, kx_c2, kx_pl, kx_cmp, kx_oF, kx_eqN, kx_nil, kx_c1, kx_ft, kx_aI, kx_aL, kx_aR, kx_ln, Nat.reduceAdd, Option.toList, List.cons_append, List.nil_append]
  repeat (simp only [e1x, c1x, e2x, c2x, e3x, c3x, e4x, c4x, e5x, c5x, h143b, hc0]; try dsimp only [kx_wp, kx_step, kx_lI, kx_lL, kx_lA, kx_gl, kx_pI, kx_pL, kx_pR, kx_pA, kx_pV, kx_s1, kx_s2, kx_sl, kx_pre, kx_c2, kx_pl, kx_cmp, kx_oF, kx_eqN, kx_nil, kx_c1, kx_ft, kx_aI, kx_aL, kx_aR, kx_ln, Nat.reduceAdd, Option.toList, List.cons_append, List.nil_append])
  repeat' apply And.intro
  all_goals try (first | with_reducible assumption | (with_reducible refine ck_nzI ?_; simp; done) | (with_reducible refine ck_nzL ?_; simp; done) | (with_reducible refine vp_in_nI ?_ ?_ <;> first | omega | decide) | (with_reducible refine Nat.le_of_ble_eq_true ?_; rfl) | omega | (unfold vp_in; decide))
  · intro zc598
    refine hB bL_law__603 _ _ _ _ _ _ _ kL_law__603 ?_
    dsimp only [bL_law__603, kx_wp, kx_step, kx_lI, kx_lL, kx_lA, kx_gl, kx_pI, kx_pL, kx_pR, kx_pA, kx_pV, kx_s1, kx_s2, kx_sl, kx_pre, kx_c2, kx_pl, kx_cmp, kx_oF, kx_eqN, kx_nil, kx_c1, kx_ft, kx_aI, kx_aL, kx_aR, kx_ln, Nat.reduceAdd, Option.toList, List.cons_append, List.nil_append]
    repeat (simp only [e1x, c1x, e2x, c2x, e3x, c3x, e4x, c4x, e5x, c5x, h143b, hc0]; try dsimp only [kx_wp, kx_step, kx_lI, kx_lL, kx_lA, kx_gl, kx_pI, kx_pL, kx_pR, kx_pA, kx_pV, kx_s1, kx_s2, kx_sl, kx_pre, kx_c2, kx_pl, kx_cmp, kx_oF, kx_eqN, kx_nil, kx_c1, kx_ft, kx_aI, kx_aL, kx_aR, kx_ln, Nat.reduceAdd, Option.toList, List.cons_append, List.nil_append])
    repeat' apply And.intro
    all_goals try (first | with_reducible assumption | (with_reducible refine ck_nzI ?_; simp; done) | (with_reducible refine ck_nzL ?_; simp; done) | (with_reducible refine vp_in_nI ?_ ?_ <;> first | omega | decide) | (with_reducible refine Nat.le_of_ble_eq_true ?_; rfl) | omega | (unfold vp_in; decide))
    · intro zc605
      refine hB bL_law__620 _ _ _ _ _ _ _ kL_law__620 ?_
      dsimp only [bL_law__620, kx_wp, kx_step, kx_lI, kx_lL, kx_lA, kx_gl, kx_pI, kx_pL, kx_pR, kx_pA, kx_pV, kx_s1, kx_s2, kx_sl, kx_pre, kx_c2, kx_pl, kx_cmp, kx_oF, kx_eqN, kx_nil, kx_c1, kx_ft, kx_aI, kx_aL, kx_aR, kx_ln, Nat.reduceAdd, Option.toList, List.cons_append, List.nil_append]
      repeat (simp only [e1x, c1x, e2x, c2x, e3x, c3x, e4x, c4x, e5x, c5x, h143b, hc0]; try dsimp only [kx_wp, kx_step, kx_lI, kx_lL, kx_lA, kx_gl, kx_pI, kx_pL, kx_pR, kx_pA, kx_pV, kx_s1, kx_s2, kx_sl, kx_pre, kx_c2, kx_pl, kx_cmp, kx_oF, kx_eqN, kx_nil, kx_c1, kx_ft, kx_aI, kx_aL, kx_aR, kx_ln, Nat.reduceAdd, Option.toList, List.cons_append, List.nil_append])
      repeat' apply And.intro
      all_goals try (first | with_reducible assumption | (with_reducible refine ck_nzI ?_; simp; done) | (with_reducible refine ck_nzL ?_; simp; done) | (with_reducible refine vp_in_nI ?_ ?_ <;> first | omega | decide) | (with_reducible refine Nat.le_of_ble_eq_true ?_; rfl) | omega | (unfold vp_in; decide))
      exact hgo P3 s2 S2 cl1 mi1 se1 bl1 go2 _ _ _ _ _ hI h34 h143b (by omega) (by omega) (by omega)
    · intro zc605
      refine hB bL_law__608 _ _ _ _ _ _ _ kL_law__608 ?_
      dsimp only [bL_law__608, kx_wp, kx_step, kx_lI, kx_lL, kx_lA, kx_gl, kx_pI, kx_pL, kx_pR, kx_pA, kx_pV, kx_s1, kx_s2, kx_sl, kx_pre, kx_c2, kx_pl, kx_cmp, kx_oF, kx_eqN, kx_nil, kx_c1, kx_ft, kx_aI, kx_aL, kx_aR, kx_ln, Nat.reduceAdd, Option.toList, List.cons_append, List.nil_append]
      repeat (simp only [e1x, c1x, e2x, c2x, e3x, c3x, e4x, c4x, e5x, c5x, h143b, hc0]; try dsimp only [kx_wp, kx_step, kx_lI, kx_lL, kx_lA, kx_gl, kx_pI, kx_pL, kx_pR, kx_pA, kx_pV, kx_s1, kx_s2, kx_sl, kx_pre, kx_c2, kx_pl, kx_cmp, kx_oF, kx_eqN, kx_nil, kx_c1, kx_ft, kx_aI, kx_aL, kx_aR, kx_ln, Nat.reduceAdd, Option.toList, List.cons_append, List.nil_append])
      repeat' apply And.intro
      all_goals try (first | with_reducible assumption | (with_reducible refine ck_nzI ?_; simp; done) | (with_reducible refine ck_nzL ?_; simp; done) | (with_reducible refine vp_in_nI ?_ ?_ <;> first | omega | decide) | (with_reducible refine Nat.le_of_ble_eq_true ?_; rfl) | omega | (unfold vp_in; decide))
      · intro zc615
        refine hB bL_law__620 _ _ _ _ _ _ _ kL_law__620 ?_
        dsimp only [bL_law__620, kx_wp, kx_step, kx_lI, kx_lL, kx_lA, kx_gl, kx_pI, kx_pL, kx_pR, kx_pA, kx_pV, kx_s1, kx_s2, kx_sl, kx_pre, kx_c2, kx_pl, kx_cmp, kx_oF, kx_eqN, kx_nil, kx_c1, kx_ft, kx_aI, kx_aL, kx_aR, kx_ln, Nat.reduceAdd, Option.toList, List.cons_append, List.nil_append]
        repeat (simp only [e1x, c1x, e2x, c2x, e3x, c3x, e4x, c4x, e5x, c5x, h143b, hc0]; try dsimp only [kx_wp, kx_step, kx_lI, kx_lL, kx_lA, kx_gl, kx_pI, kx_pL, kx_pR, kx_pA, kx_pV, kx_s1, kx_s2, kx_sl, kx_pre, kx_c2, kx_pl, kx_cmp, kx_oF, kx_eqN, kx_nil, kx_c1, kx_ft, kx_aI, kx_aL, kx_aR, kx_ln, Nat.reduceAdd, Option.toList, List.cons_append, List.nil_append])
        repeat' apply And.intro
        all_goals try (first | with_reducible assumption | (with_reducible refine ck_nzI ?_; simp; done) | (with_reducible refine ck_nzL ?_; simp; done) | (with_reducible refine vp_in_nI ?_ ?_ <;> first | omega | decide) | (with_reducible refine Nat.le_of_ble_eq_true ?_; rfl) | omega | (unfold vp_in; decide))
        exact hgo P3 s2 S2 cl1 mi1 se1 bl1 go2 _ _ _ _ _ hI h34 h143b (by omega) (by omega) (by omega)
      · intro zc615
        first | exact absurd rfl zc615 | exact absurd zc615 (by decide) | exact absurd (by decide) zc615 | (exfalso; first | exact zc615 (by rw [hgo0 (Decidable.not_not.mp zc605)]; exact lg_cmp_s _)) | (exfalso; simp_all; done)
  · intro zc598
    first | exact absurd rfl zc598 | exact absurd zc598 (by decide) | exact absurd (by decide) zc598 | (exfalso; first | exact zc615 (by rw [hgo0 (Decidable.not_not.mp zc605)]; exact lg_cmp_s _)) | (exfalso; simp_all; done)

set_option maxRecDepth 100000 in
set_option maxHeartbeats 4000000 in
theorem cj_rate (l : Launch) (G : kx_G) (hst : l.stackTraces = false) {P : kx_P} {sz : Nat} {M : Nat → Int32} {A : Nat → Nat → Int32} {L : Nat → Nat → Int64} {cl mi se : Nat} {bl : Nat → Nat} {go : Nat → Int64} {Ln i k n : Nat} {xs : Nat → Int32} {o5 o6 o7 : Option Value} {g : kx_F} (h : cI P sz (M, A, L) cl mi se bl) (h3 : P 3 = kI 5 Ln xs) (h143 : P 143 = kL 1 go) (hi : i + 6 ≤ Ln) (hL : Ln ≤ 3072) (hk : k + 8 ≤ 601024) (hn : n + cro bl + 2206 ≤ 7293033) (hse : se ≤ 999) (hB : kx_rB kxL_L false cL_law_ 601024 7293033 (fun r _ _ => r = some (.int 1)) g) (hN : kx_rN l G RL cL_law_ 60 601024 7293033 g) (hW : kx_rW l G RL cL_law_ 60 601024 7293033 g) (hgo : cAf g Ln xs i se k n bl) : g 623 [some (.ref 3), some (.ref 64), some (.ref 93), some (.ref 143), some (.int (nI i)), o5, o6, o7] [] P sz k n := by
  have e1x : nI i + 1 = nI (i + 1) := by rw [show (1 : Int32) = nI 1 from rfl, nI_add]
  have c1x : (nI (i + 1)).toNatClampNeg = i + 1 := nI_clamp (by omega)
  have e2x : nI i + 2 = nI (i + 2) := by rw [show (2 : Int32) = nI 2 from rfl, nI_add]
  have c2x : (nI (i + 2)).toNatClampNeg = i + 2 := nI_clamp (by omega)
  have e3x : nI i + 3 = nI (i + 3) := by rw [show (3 : Int32) = nI 3 from rfl, nI_add]
  have c3x : (nI (i + 3)).toNatClampNeg = i + 3 := nI_clamp (by omega)
  have e4x : nI i + 4 = nI (i + 4) := by rw [show (4 : Int32) = nI 4 from rfl, nI_add]
  have c4x : (nI (i + 4)).toNatClampNeg = i + 4 := nI_clamp (by omega)
  have e5x : nI i + 5 = nI (i + 5) := by rw [show (5 : Int32) = nI 5 from rfl, nI_add]
  have c5x : (nI (i + 5)).toNatClampNeg = i + 5 := nI_clamp (by omega)
  have hc0 : (0 : Int32).toNatClampNeg = 0 := rfl
  obtain ⟨f64, h64⟩ := cI_k64 h
  have hs := cs_rate l G hst h (xs (i + 1))
  obtain ⟨k9, dw, dm, mc, ms, cl1, mi1, se1, bl1, Q, q1, q2, q3, q4, q5, hw, hmo⟩ := cSs.s (yw := sL_rate) (hh := hL_rate) (Aw := [.ref 64, .int (xs (i + 1)), .ref 143]) h h143 hs (fun d mc ms Po => cw_rate_t l G h64) (fun p hp => by
    simp only [List.mem_cons, List.not_mem_nil, or_false] at hp
    rcases hp with rfl
    · exact ⟨by decide, fun d => cw_rate_x0 l G h64⟩)
  refine hB bL_law__623 _ _ _ _ _ _ _ kL_law__623 ?_
  dsimp only [bL_law__623, kx_wp, kx_step, kx_lI, kx_lL, kx_lA, kx_gl, kx_pI, kx_pL, kx_pR, kx_pA, kx_pV, kx_s1, kx_s2, kx_sl, kx_pre, kx_c2, kx_pl, kx_cmp, kx_oF, kx_eqN, kx_nil, kx_c1, kx_ft, kx_aI, kx_aL, kx_aR, kx_ln, Nat.reduceAdd, Option.toList, List.cons_append, List.nil_append]
  repeat (simp only [e1x, c1x, e2x, c2x, e3x, c3x, e4x, c4x, e5x, c5x, h3]; try dsimp only [kx_wp, kx_step, kx_lI, kx_lL, kx_lA, kx_gl, kx_pI, kx_pL, kx_pR, kx_pA, kx_pV, kx_s1, kx_s2, kx_sl, kx_pre, kx_c2, kx_pl, kx_cmp, kx_oF, kx_eqN, kx_nil, kx_c1, kx_ft, kx_aI, kx_aL, kx_aR, kx_ln, Nat.reduceAdd, Option.toList, List.cons_append, List.nil_append])
  repeat' apply And.intro
  all_goals try (first | with_reducible assumption | (with_reducible refine ck_nzI ?_; simp; done) | (with_reducible refine ck_nzL ?_; simp; done) | (with_reducible refine vp_in_nI ?_ ?_ <;> first | omega | decide) | (with_reducible refine Nat.le_of_ble_eq_true ?_; rfl) | omega | (unfold vp_in; decide))
  refine hW 151 _ _ _ _ _ _ _ _ _ _ _ _ _ _ _ _ lL_151 hw rfl rfl (Nat.le_of_ble_eq_true rfl) (by omega) (by decide) (by omega) (by omega) dL_law__631 ?_
  rintro r2 P2 s2 ⟨e2, hQ⟩
  rw [e2]
  obtain ⟨⟨fm, h93⟩, h33, hM⟩ := hmo P2 s2 hQ
  have h33 := h33.trans h3
  dsimp only [Option.toList, List.cons_append, List.nil_append]
  refine hB bL_law__634 _ _ _ _ _ _ _ kL_law__634 ?_
  dsimp only [bL_law__634, kx_wp, kx_step, kx_lI, kx_lL, kx_lA, kx_gl, kx_pI, kx_pL, kx_pR, kx_pA, kx_pV, kx_s1, kx_s2, kx_sl, kx_pre, kx_c2, kx_pl, kx_cmp, kx_oF, kx_eqN, kx_nil, kx_c1, kx_ft, kx_aI, kx_aL, kx_aR, kx_ln, Nat.reduceAdd, Option.toList, List.cons_append, List.nil_append]
  repeat (simp only [e1x, c1x, e2x, c2x, e3x, c3x, e4x, c4x, e5x, c5x, h33]; try dsimp only [kx_wp, kx_step, kx_lI, kx_lL, kx_lA, kx_gl, kx_pI, kx_pL, kx_pR, kx_pA, kx_pV, kx_s1, kx_s2, kx_sl, kx_pre, kx_c2, kx_pl, kx_cmp, kx_oF, kx_eqN, kx_nil, kx_c1, kx_ft, kx_aI, kx_aL, kx_aR, kx_ln, Nat.reduceAdd, Option.toList, List.cons_append, List.nil_append])
  repeat' apply And.intro
  all_goals try (first | with_reducible assumption | (with_reducible refine ck_nzI ?_; simp; done) | (with_reducible refine ck_nzL ?_; simp; done) | (with_reducible refine vp_in_nI ?_ ?_ <;> first | omega | decide) | (with_reducible refine Nat.le_of_ble_eq_true ?_; rfl) | omega | (unfold vp_in; decide))
  refine hN.1 153 _ _ _ _ _ _ _ 11 _ _ _ _ _ _ _ _ _ _ lL_153 hM ⟨by decide, rfl⟩ h93 rfl rfl (Nat.le_of_ble_eq_true rfl) (by omega) (by decide) (by omega) (by omega) dL_law__643 ?_
  rintro r3 P3 s3 ⟨e3, v, S2, go2, e4, hT, hk0, hI, h34, h143b, hgo0⟩
  obtain ⟨b9, e5⟩ := hT.2 (by decide)
  subst e5
  rw [e3, e4]
  have h34 := h34.trans h3
  have h93b := cI_93 hI
  have hth := cI_th l G hI
  rw [hk0] at hth
  dsimp only [Option.toList, List.cons_append, List.nil_append]
  refine hB bL_law__646 _ _ _ _ _ _ _ kL_law__646 ?_
  dsimp only [bL_law__646, kx_wp, kx_step, kx_lI, kx_lL, kx_lA, kx_gl, kx_pI, kx_pL, kx_pR, kx_pA, kx_pV, kx_s1, kx_s2, kx_sl, kx_pre, kx_c2, kx_pl, kx_cmp, kx_oF, kx_eqN, kx_nil, kx_c1, kx_ft, kx_aI, kx_aL, kx_aR, kx_ln, Nat.reduceAdd, Option.toList, List.cons_append, List.nil_append]
  repeat (simp only [e1x, c1x, e2x, c2x, e3x, c3x, e4x, c4x, e5x, c5x, h143b, hc0]; try dsimp only [kx_wp, kx_step, kx_lI, kx_lL, kx_lA, kx_gl, kx_pI, kx_pL, kx_pR, kx_pA, kx_pV, kx_s1, kx_s2, kx_sl, kx_pre, kx_c2, kx_pl, kx_cmp, kx_oF, kx_eqN, kx_nil, kx_c1, kx_ft, kx_aI, kx_aL, kx_aR, kx_ln, Nat.reduceAdd, Option.toList, List.cons_append, List.nil_append])
  repeat' apply And.intro
  all_goals try (first | with_reducible assumption | (with_reducible refine ck_nzI ?_; simp; done) | (with_reducible refine ck_nzL ?_; simp; done) | (with_reducible refine vp_in_nI ?_ ?_ <;> first | omega | decide) | (with_reducible refine Nat.le_of_ble_eq_true ?_; rfl) | omega | (unfold vp_in; decide))
  refine hN.1 120 _ _ _ _ _ _ _ 11 _ _ _ _ _ _ _ _ _ _ lL_120 hth.n ⟨by decide, rfl⟩ h93b rfl rfl (Nat.le_of_ble_eq_true rfl) (by omega) (by decide) (by omega) (by omega) dL_law__649 ?_
  rintro r4 P4 s4 ⟨e6, e7, e8⟩
  rw [e6, e7, e8]
  dsimp only [Option.toList, List.cons_append, List.nil_append]
  refine hB bL_law__652 _ _ _ _ _ _ _ kL_law__652 ?_
  dsimp only [bL_law__652, kx_wp, kx_step, kx_lI, kx_lL, kx_lA, kx_gl, kx_pI, kx_pL, kx_pR, kx_pA, kx_pV, kx_s1, kx_s2, kx_sl, kx_pre, kx_c2, kx_pl, kx_cmp, kx_oF, kx_eqN, kx_nil, kx_c1, kx_ft, kx_aI, kx_aL, kx_aR, kx_ln, Nat.reduceAdd, Option.toList, List.cons_append, List.nil_append]
  repeat (simp only [e1x, c1x, e2x, c2x, e3x, c3x, e4x, c4x, e5x, c5x, h143b, hc0]; try dsimp only [kx_wp, kx_step, kx_lI, kx_lL, kx_lA, kx_gl, kx_pI, kx_pL, kx_pR, kx_pA, kx_pV, kx_s1, kx_s2, kx_sl, kx_pre, kx_c2, kx_pl, kx_cmp, kx_oF, kx_eqN, kx_nil, kx_c1, kx_ft, kx_aI, kx_aL, kx_aR, kx_ln, Nat.reduceAdd, Option.toList, List.cons_append, List.nil_append])
  repeat' apply And.intro
  all_goals try (first | with_reducible assumption | (with_reducible refine ck_nzI ?_; simp; done) | (with_reducible refine ck_nzL ?_; simp; done) | (with_reducible refine vp_in_nI ?_ ?_ <;> first | omega | decide) | (with_reducible refine Nat.le_of_ble_eq_true ?_; rfl) | omega | (unfold vp_in; decide))
  · intro zc654
    refine hB bL_law__659 _ _ _ _ _ _ _ kL_law__659 ?_
    dsimp only [bL_law__659, kx_wp, kx_step, kx_lI, kx_lL, kx_lA, kx_gl, kx_pI, kx_pL, kx_pR, kx_pA, kx_pV, kx_s1, kx_s2, kx_sl, kx_pre, kx_c2, kx_pl, kx_cmp, kx_oF, kx_eqN, kx_nil, kx_c1, kx_ft, kx_aI, kx_aL, kx_aR, kx_ln, Nat.reduceAdd, Option.toList, List.cons_append, List.nil_append]
    repeat (simp only [e1x, c1x, e2x, c2x, e3x, c3x, e4x, c4x, e5x, c5x, h143b, hc0]; try dsimp only [kx_wp, kx_step, kx_lI, kx_lL, kx_lA, kx_gl, kx_pI, kx_pL, kx_pR, kx_pA, kx_pV, kx_s1, kx_s2, kx_sl, kx_pre, kx_c2, kx_pl, kx_cmp, kx_oF, kx_eqN, kx_nil, kx_c1, kx_ft, kx_aI, kx_aL, kx_aR, kx_ln, Nat.reduceAdd, Option.toList, List.cons_append, List.nil_append])
    repeat' apply And.intro
    all_goals try (first | with_reducible assumption | (with_reducible refine ck_nzI ?_; simp; done) | (with_reducible refine ck_nzL ?_; simp; done) | (with_reducible refine vp_in_nI ?_ ?_ <;> first | omega | decide) | (with_reducible refine Nat.le_of_ble_eq_true ?_; rfl) | omega | (unfold vp_in; decide))
    · intro zc661
      refine hB bL_law__676 _ _ _ _ _ _ _ kL_law__676 ?_
      dsimp only [bL_law__676, kx_wp, kx_step, kx_lI, kx_lL, kx_lA, kx_gl, kx_pI, kx_pL, kx_pR, kx_pA, kx_pV, kx_s1, kx_s2, kx_sl, kx_pre, kx_c2, kx_pl, kx_cmp, kx_oF, kx_eqN, kx_nil, kx_c1, kx_ft, kx_aI, kx_aL, kx_aR, kx_ln, Nat.reduceAdd, Option.toList, List.cons_append, List.nil_append]
      repeat (simp only [e1x, c1x, e2x, c2x, e3x, c3x, e4x, c4x, e5x, c5x, h143b, hc0]; try dsimp only [kx_wp, kx_step, kx_lI, kx_lL, kx_lA, kx_gl, kx_pI, kx_pL, kx_pR, kx_pA, kx_pV, kx_s1, kx_s2, kx_sl, kx_pre, kx_c2, kx_pl, kx_cmp, kx_oF, kx_eqN, kx_nil, kx_c1, kx_ft, kx_aI, kx_aL, kx_aR, kx_ln, Nat.reduceAdd, Option.toList, List.cons_append, List.nil_append])
      repeat' apply And.intro
      all_goals try (first | with_reducible assumption | (with_reducible refine ck_nzI ?_; simp; done) | (with_reducible refine ck_nzL ?_; simp; done) | (with_reducible refine vp_in_nI ?_ ?_ <;> first | omega | decide) | (with_reducible refine Nat.le_of_ble_eq_true ?_; rfl) | omega | (unfold vp_in; decide))
      exact hgo P3 s2 S2 cl1 mi1 se1 bl1 go2 _ _ _ _ _ hI h34 h143b (by omega) (by omega) (by omega)
    · intro zc661
      refine hB bL_law__664 _ _ _ _ _ _ _ kL_law__664 ?_
      dsimp only [bL_law__664, kx_wp, kx_step, kx_lI, kx_lL, kx_lA, kx_gl, kx_pI, kx_pL, kx_pR, kx_pA, kx_pV, kx_s1, kx_s2, kx_sl, kx_pre, kx_c2, kx_pl, kx_cmp, kx_oF, kx_eqN, kx_nil, kx_c1, kx_ft, kx_aI, kx_aL, kx_aR, kx_ln, Nat.reduceAdd, Option.toList, List.cons_append, List.nil_append]
      repeat (simp only [e1x, c1x, e2x, c2x, e3x, c3x, e4x, c4x, e5x, c5x, h143b, hc0]; try dsimp only [kx_wp, kx_step, kx_lI, kx_lL, kx_lA, kx_gl, kx_pI, kx_pL, kx_pR, kx_pA, kx_pV, kx_s1, kx_s2, kx_sl, kx_pre, kx_c2, kx_pl, kx_cmp, kx_oF, kx_eqN, kx_nil, kx_c1, kx_ft, kx_aI, kx_aL, kx_aR, kx_ln, Nat.reduceAdd, Option.toList, List.cons_append, List.nil_append])
      repeat' apply And.intro
      all_goals try (first | with_reducible assumption | (with_reducible refine ck_nzI ?_; simp; done) | (with_reducible refine ck_nzL ?_; simp; done) | (with_reducible refine vp_in_nI ?_ ?_ <;> first | omega | decide) | (with_reducible refine Nat.le_of_ble_eq_true ?_; rfl) | omega | (unfold vp_in; decide))
      · intro zc671
        refine hB bL_law__676 _ _ _ _ _ _ _ kL_law__676 ?_
        dsimp only [bL_law__676, kx_wp, kx_step, kx_lI, kx_lL, kx_lA, kx_gl, kx_pI, kx_pL, kx_pR, kx_pA, kx_pV, kx_s1, kx_s2, kx_sl, kx_pre, kx_c2, kx_pl, kx_cmp, kx_oF, kx_eqN, kx_nil, kx_c1, kx_ft, kx_aI, kx_aL, kx_aR, kx_ln, Nat.reduceAdd, Option.toList, List.cons_append, List.nil_append]
        repeat (simp only [e1x, c1x, e2x, c2x, e3x, c3x, e4x, c4x, e5x, c5x, h143b, hc0]; try dsimp only [kx_wp, kx_step, kx_lI, kx_lL, kx_lA, kx_gl, kx_pI, kx_pL, kx_pR, kx_pA, kx_pV, kx_s1, kx_s2, kx_sl, kx_pre, kx_c2, kx_pl, kx_cmp, kx_oF, kx_eqN, kx_nil, kx_c1, kx_ft, kx_aI, kx_aL, kx_aR, kx_ln, Nat.reduceAdd, Option.toList, List.cons_append, List.nil_append])
        repeat' apply And.intro
        all_goals try (first | with_reducible assumption | (with_reducible refine ck_nzI ?_; simp; done) | (with_reducible refine ck_nzL ?_; simp; done) | (with_reducible refine vp_in_nI ?_ ?_ <;> first | omega | decide) | (with_reducible refine Nat.le_of_ble_eq_true ?_; rfl) | omega | (unfold vp_in; decide))
        exact hgo P3 s2 S2 cl1 mi1 se1 bl1 go2 _ _ _ _ _ hI h34 h143b (by omega) (by omega) (by omega)
      · intro zc671
        first | exact absurd rfl zc671 | exact absurd zc671 (by decide) | exact absurd (by decide) zc671 | (exfalso; first | exact zc671 (by rw [hgo0 (Decidable.not_not.mp zc661)]; exact lg_cmp_s _)) | (exfalso; simp_all; done)
  · intro zc654
    first | exact absurd rfl zc654 | exact absurd zc654 (by decide) | exact absurd (by decide) zc654 | (exfalso; first | exact zc671 (by rw [hgo0 (Decidable.not_not.mp zc661)]; exact lg_cmp_s _)) | (exfalso; simp_all; done)

set_option maxRecDepth 100000 in
set_option maxHeartbeats 4000000 in
theorem cj_told (l : Launch) (G : kx_G) (hst : l.stackTraces = false) {P : kx_P} {sz : Nat} {M : Nat → Int32} {A : Nat → Nat → Int32} {L : Nat → Nat → Int64} {cl mi se : Nat} {bl : Nat → Nat} {go : Nat → Int64} {Ln i k n : Nat} {xs : Nat → Int32} {o5 o6 o7 : Option Value} {g : kx_F} (h : cI P sz (M, A, L) cl mi se bl) (h3 : P 3 = kI 5 Ln xs) (h143 : P 143 = kL 1 go) (hi : i + 6 ≤ Ln) (hL : Ln ≤ 3072) (hk : k + 8 ≤ 601024) (hn : n + cro bl + 2206 ≤ 7293033) (hse : se ≤ 999) (hB : kx_rB kxL_L false cL_law_ 601024 7293033 (fun r _ _ => r = some (.int 1)) g) (hN : kx_rN l G RL cL_law_ 60 601024 7293033 g) (hW : kx_rW l G RL cL_law_ 60 601024 7293033 g) (hgo : cAf g Ln xs i se k n bl) : g 679 [some (.ref 3), some (.ref 64), some (.ref 93), some (.ref 143), some (.int (nI i)), o5, o6, o7] [] P sz k n := by
  have e1x : nI i + 1 = nI (i + 1) := by rw [show (1 : Int32) = nI 1 from rfl, nI_add]
  have c1x : (nI (i + 1)).toNatClampNeg = i + 1 := nI_clamp (by omega)
  have e2x : nI i + 2 = nI (i + 2) := by rw [show (2 : Int32) = nI 2 from rfl, nI_add]
  have c2x : (nI (i + 2)).toNatClampNeg = i + 2 := nI_clamp (by omega)
  have e3x : nI i + 3 = nI (i + 3) := by rw [show (3 : Int32) = nI 3 from rfl, nI_add]
  have c3x : (nI (i + 3)).toNatClampNeg = i + 3 := nI_clamp (by omega)
  have e4x : nI i + 4 = nI (i + 4) := by rw [show (4 : Int32) = nI 4 from rfl, nI_add]
  have c4x : (nI (i + 4)).toNatClampNeg = i + 4 := nI_clamp (by omega)
  have e5x : nI i + 5 = nI (i + 5) := by rw [show (5 : Int32) = nI 5 from rfl, nI_add]
  have c5x : (nI (i + 5)).toNatClampNeg = i + 5 := nI_clamp (by omega)
  have hc0 : (0 : Int32).toNatClampNeg = 0 := rfl
  obtain ⟨f64, h64⟩ := cI_k64 h
  have hs := cs_told l G hst h (xs (i + 1)) (xs (i + 2))
  obtain ⟨k9, dw, dm, mc, ms, cl1, mi1, se1, bl1, Q, q1, q2, q3, q4, q5, hw, hmo⟩ := cSs.s (yw := sL_told) (hh := hL_told) (Aw := [.ref 64, .int (xs (i + 1)), .int (xs (i + 2)), .ref 143]) h h143 hs (fun d mc ms Po => cw_told_t l G h64) (fun p hp => by
    simp only [List.mem_cons, List.not_mem_nil, or_false] at hp
    rcases hp with rfl | rfl
    · exact ⟨by decide, fun d => cw_told_x0 l G h64⟩
    · exact ⟨by decide, fun d => cw_told_x1 l G h64⟩)
  refine hB bL_law__679 _ _ _ _ _ _ _ kL_law__679 ?_
  dsimp only [bL_law__679, kx_wp, kx_step, kx_lI, kx_lL, kx_lA, kx_gl, kx_pI, kx_pL, kx_pR, kx_pA, kx_pV, kx_s1, kx_s2, kx_sl, kx_pre, kx_c2, kx_pl, kx_cmp, kx_oF, kx_eqN, kx_nil, kx_c1, kx_ft, kx_aI, kx_aL, kx_aR, kx_ln, Nat.reduceAdd, Option.toList, List.cons_append, List.nil_append]
  repeat (simp only [e1x, c1x, e2x, c2x, e3x, c3x, e4x, c4x, e5x, c5x, h3]; try dsimp only [kx_wp, kx_step, kx_lI, kx_lL, kx_lA, kx_gl, kx_pI, kx_pL, kx_pR, kx_pA, kx_pV, kx_s1, kx_s2, kx_sl, kx_pre, kx_c2, kx_pl, kx_cmp, kx_oF, kx_eqN, kx_nil, kx_c1, kx_ft, kx_aI, kx_aL, kx_aR, kx_ln, Nat.reduceAdd, Option.toList, List.cons_append, List.nil_append])
  repeat' apply And.intro
  all_goals try (first | with_reducible assumption | (with_reducible refine ck_nzI ?_; simp; done) | (with_reducible refine ck_nzL ?_; simp; done) | (with_reducible refine vp_in_nI ?_ ?_ <;> first | omega | decide) | (with_reducible refine Nat.le_of_ble_eq_true ?_; rfl) | omega | (unfold vp_in; decide))
  refine hW 154 _ _ _ _ _ _ _ _ _ _ _ _ _ _ _ _ lL_154 hw rfl rfl (Nat.le_of_ble_eq_true rfl) (by omega) (by decide) (by omega) (by omega) dL_law__693 ?_
  rintro r2 P2 s2 ⟨e2, hQ⟩
  rw [e2]
  obtain ⟨⟨fm, h93⟩, h33, hM⟩ := hmo P2 s2 hQ
  have h33 := h33.trans h3
  dsimp only [Option.toList, List.cons_append, List.nil_append]
  refine hB bL_law__696 _ _ _ _ _ _ _ kL_law__696 ?_
  dsimp only [bL_law__696, kx_wp, kx_step, kx_lI, kx_lL, kx_lA, kx_gl, kx_pI, kx_pL, kx_pR, kx_pA, kx_pV, kx_s1, kx_s2, kx_sl, kx_pre, kx_c2, kx_pl, kx_cmp, kx_oF, kx_eqN, kx_nil, kx_c1, kx_ft, kx_aI, kx_aL, kx_aR, kx_ln, Nat.reduceAdd, Option.toList, List.cons_append, List.nil_append]
  repeat (simp only [e1x, c1x, e2x, c2x, e3x, c3x, e4x, c4x, e5x, c5x, h33]; try dsimp only [kx_wp, kx_step, kx_lI, kx_lL, kx_lA, kx_gl, kx_pI, kx_pL, kx_pR, kx_pA, kx_pV, kx_s1, kx_s2, kx_sl, kx_pre, kx_c2, kx_pl, kx_cmp, kx_oF, kx_eqN, kx_nil, kx_c1, kx_ft, kx_aI, kx_aL, kx_aR, kx_ln, Nat.reduceAdd, Option.toList, List.cons_append, List.nil_append])
  repeat' apply And.intro
  all_goals try (first | with_reducible assumption | (with_reducible refine ck_nzI ?_; simp; done) | (with_reducible refine ck_nzL ?_; simp; done) | (with_reducible refine vp_in_nI ?_ ?_ <;> first | omega | decide) | (with_reducible refine Nat.le_of_ble_eq_true ?_; rfl) | omega | (unfold vp_in; decide))
  refine hN.1 157 _ _ _ _ _ _ _ 11 _ _ _ _ _ _ _ _ _ _ lL_157 hM ⟨by decide, rfl⟩ h93 rfl rfl (Nat.le_of_ble_eq_true rfl) (by omega) (by decide) (by omega) (by omega) dL_law__711 ?_
  rintro r3 P3 s3 ⟨e3, v, S2, go2, e4, hT, hk0, hI, h34, h143b, hgo0⟩
  obtain ⟨b9, e5⟩ := hT.2 (by decide)
  subst e5
  rw [e3, e4]
  have h34 := h34.trans h3
  have h93b := cI_93 hI
  have hth := cI_th l G hI
  rw [hk0] at hth
  dsimp only [Option.toList, List.cons_append, List.nil_append]
  refine hB bL_law__714 _ _ _ _ _ _ _ kL_law__714 ?_
  dsimp only [bL_law__714, kx_wp, kx_step, kx_lI, kx_lL, kx_lA, kx_gl, kx_pI, kx_pL, kx_pR, kx_pA, kx_pV, kx_s1, kx_s2, kx_sl, kx_pre, kx_c2, kx_pl, kx_cmp, kx_oF, kx_eqN, kx_nil, kx_c1, kx_ft, kx_aI, kx_aL, kx_aR, kx_ln, Nat.reduceAdd, Option.toList, List.cons_append, List.nil_append]
  repeat (simp only [e1x, c1x, e2x, c2x, e3x, c3x, e4x, c4x, e5x, c5x, h143b, hc0]; try dsimp only [kx_wp, kx_step, kx_lI, kx_lL, kx_lA, kx_gl, kx_pI, kx_pL, kx_pR, kx_pA, kx_pV, kx_s1, kx_s2, kx_sl, kx_pre, kx_c2, kx_pl, kx_cmp, kx_oF, kx_eqN, kx_nil, kx_c1, kx_ft, kx_aI, kx_aL, kx_aR, kx_ln, Nat.reduceAdd, Option.toList, List.cons_append, List.nil_append])
  repeat' apply And.intro
  all_goals try (first | with_reducible assumption | (with_reducible refine ck_nzI ?_; simp; done) | (with_reducible refine ck_nzL ?_; simp; done) | (with_reducible refine vp_in_nI ?_ ?_ <;> first | omega | decide) | (with_reducible refine Nat.le_of_ble_eq_true ?_; rfl) | omega | (unfold vp_in; decide))
  refine hN.1 120 _ _ _ _ _ _ _ 11 _ _ _ _ _ _ _ _ _ _ lL_120 hth.n ⟨by decide, rfl⟩ h93b rfl rfl (Nat.le_of_ble_eq_true rfl) (by omega) (by decide) (by omega) (by omega) dL_law__717 ?_
  rintro r4 P4 s4 ⟨e6, e7, e8⟩
  rw [e6, e7, e8]
  dsimp only [Option.toList, List.cons_append, List.nil_append]
  refine hB bL_law__720 _ _ _ _ _ _ _ kL_law__720 ?_
  dsimp only [bL_law__720, kx_wp, kx_step, kx_lI, kx_lL, kx_lA, kx_gl, kx_pI, kx_pL, kx_pR, kx_pA, kx_pV, kx_s1, kx_s2, kx_sl, kx_pre, kx_c2, kx_pl, kx_cmp, kx_oF, kx_eqN, kx_nil, kx_c1, kx_ft, kx_aI, kx_aL, kx_aR, kx_ln, Nat.reduceAdd, Option.toList, List.cons_append, List.nil_append]
  repeat (simp only [e1x, c1x, e2x, c2x, e3x, c3x, e4x, c4x, e5x, c5x, h143b, hc0]; try dsimp only [kx_wp, kx_step, kx_lI, kx_lL, kx_lA, kx_gl, kx_pI, kx_pL, kx_pR, kx_pA, kx_pV, kx_s1, kx_s2, kx_sl, kx_pre, kx_c2, kx_pl, kx_cmp, kx_oF, kx_eqN, kx_nil, kx_c1, kx_ft, kx_aI, kx_aL, kx_aR, kx_ln, Nat.reduceAdd, Option.toList, List.cons_append, List.nil_append])
  repeat' apply And.intro
  all_goals try (first | with_reducible assumption | (with_reducible refine ck_nzI ?_; simp; done) | (with_reducible refine ck_nzL ?_; simp; done) | (with_reducible refine vp_in_nI ?_ ?_ <;> first | omega | decide) | (with_reducible refine Nat.le_of_ble_eq_true ?_; rfl) | omega | (unfold vp_in; decide))
  · intro zc722
    refine hB bL_law__727 _ _ _ _ _ _ _ kL_law__727 ?_
    dsimp only [bL_law__727, kx_wp, kx_step, kx_lI, kx_lL, kx_lA, kx_gl, kx_pI, kx_pL, kx_pR, kx_pA, kx_pV, kx_s1, kx_s2, kx_sl, kx_pre, kx_c2, kx_pl, kx_cmp, kx_oF, kx_eqN, kx_nil, kx_c1, kx_ft, kx_aI, kx_aL, kx_aR, kx_ln, Nat.reduceAdd, Option.toList, List.cons_append, List.nil_append]
    repeat (simp only [e1x, c1x, e2x, c2x, e3x, c3x, e4x, c4x, e5x, c5x, h143b, hc0]; try dsimp only [kx_wp, kx_step, kx_lI, kx_lL, kx_lA, kx_gl, kx_pI, kx_pL, kx_pR, kx_pA, kx_pV, kx_s1, kx_s2, kx_sl, kx_pre, kx_c2, kx_pl, kx_cmp, kx_oF, kx_eqN, kx_nil, kx_c1, kx_ft, kx_aI, kx_aL, kx_aR, kx_ln, Nat.reduceAdd, Option.toList, List.cons_append, List.nil_append])
    repeat' apply And.intro
    all_goals try (first | with_reducible assumption | (with_reducible refine ck_nzI ?_; simp; done) | (with_reducible refine ck_nzL ?_; simp; done) | (with_reducible refine vp_in_nI ?_ ?_ <;> first | omega | decide) | (with_reducible refine Nat.le_of_ble_eq_true ?_; rfl) | omega | (unfold vp_in; decide))
    · intro zc729
      refine hB bL_law__744 _ _ _ _ _ _ _ kL_law__744 ?_
      dsimp only [bL_law__744, kx_wp, kx_step, kx_lI, kx_lL, kx_lA, kx_gl, kx_pI, kx_pL, kx_pR, kx_pA, kx_pV, kx_s1, kx_s2, kx_sl, kx_pre, kx_c2, kx_pl, kx_cmp, kx_oF, kx_eqN, kx_nil, kx_c1, kx_ft, kx_aI, kx_aL, kx_aR, kx_ln, Nat.reduceAdd, Option.toList, List.cons_append, List.nil_append]
      repeat (simp only [e1x, c1x, e2x, c2x, e3x, c3x, e4x, c4x, e5x, c5x, h143b, hc0]; try dsimp only [kx_wp, kx_step, kx_lI, kx_lL, kx_lA, kx_gl, kx_pI, kx_pL, kx_pR, kx_pA, kx_pV, kx_s1, kx_s2, kx_sl, kx_pre, kx_c2, kx_pl, kx_cmp, kx_oF, kx_eqN, kx_nil, kx_c1, kx_ft, kx_aI, kx_aL, kx_aR, kx_ln, Nat.reduceAdd, Option.toList, List.cons_append, List.nil_append])
      repeat' apply And.intro
      all_goals try (first | with_reducible assumption | (with_reducible refine ck_nzI ?_; simp; done) | (with_reducible refine ck_nzL ?_; simp; done) | (with_reducible refine vp_in_nI ?_ ?_ <;> first | omega | decide) | (with_reducible refine Nat.le_of_ble_eq_true ?_; rfl) | omega | (unfold vp_in; decide))
      exact hgo P3 s2 S2 cl1 mi1 se1 bl1 go2 _ _ _ _ _ hI h34 h143b (by omega) (by omega) (by omega)
    · intro zc729
      refine hB bL_law__732 _ _ _ _ _ _ _ kL_law__732 ?_
      dsimp only [bL_law__732, kx_wp, kx_step, kx_lI, kx_lL, kx_lA, kx_gl, kx_pI, kx_pL, kx_pR, kx_pA, kx_pV, kx_s1, kx_s2, kx_sl, kx_pre, kx_c2, kx_pl, kx_cmp, kx_oF, kx_eqN, kx_nil, kx_c1, kx_ft, kx_aI, kx_aL, kx_aR, kx_ln, Nat.reduceAdd, Option.toList, List.cons_append, List.nil_append]
      repeat (simp only [e1x, c1x, e2x, c2x, e3x, c3x, e4x, c4x, e5x, c5x, h143b, hc0]; try dsimp only [kx_wp, kx_step, kx_lI, kx_lL, kx_lA, kx_gl, kx_pI, kx_pL, kx_pR, kx_pA, kx_pV, kx_s1, kx_s2, kx_sl, kx_pre, kx_c2, kx_pl, kx_cmp, kx_oF, kx_eqN, kx_nil, kx_c1, kx_ft, kx_aI, kx_aL, kx_aR, kx_ln, Nat.reduceAdd, Option.toList, List.cons_append, List.nil_append])
      repeat' apply And.intro
      all_goals try (first | with_reducible assumption | (with_reducible refine ck_nzI ?_; simp; done) | (with_reducible refine ck_nzL ?_; simp; done) | (with_reducible refine vp_in_nI ?_ ?_ <;> first | omega | decide) | (with_reducible refine Nat.le_of_ble_eq_true ?_; rfl) | omega | (unfold vp_in; decide))
      · intro zc739
        refine hB bL_law__744 _ _ _ _ _ _ _ kL_law__744 ?_
        dsimp only [bL_law__744, kx_wp, kx_step, kx_lI, kx_lL, kx_lA, kx_gl, kx_pI, kx_pL, kx_pR, kx_pA, kx_pV, kx_s1, kx_s2, kx_sl, kx_pre, kx_c2, kx_pl, kx_cmp, kx_oF, kx_eqN, kx_nil, kx_c1, kx_ft, kx_aI, kx_aL, kx_aR, kx_ln, Nat.reduceAdd, Option.toList, List.cons_append, List.nil_append]
        repeat (simp only [e1x, c1x, e2x, c2x, e3x, c3x, e4x, c4x, e5x, c5x, h143b, hc0]; try dsimp only [kx_wp, kx_step, kx_lI, kx_lL, kx_lA, kx_gl, kx_pI, kx_pL, kx_pR, kx_pA, kx_pV, kx_s1, kx_s2, kx_sl, kx_pre, kx_c2, kx_pl, kx_cmp, kx_oF, kx_eqN, kx_nil, kx_c1, kx_ft, kx_aI, kx_aL, kx_aR, kx_ln, Nat.reduceAdd, Option.toList, List.cons_append, List.nil_append])
        repeat' apply And.intro
        all_goals try (first | with_reducible assumption | (with_reducible refine ck_nzI ?_; simp; done) | (with_reducible refine ck_nzL ?_; simp; done) | (with_reducible refine vp_in_nI ?_ ?_ <;> first | omega | decide) | (with_reducible refine Nat.le_of_ble_eq_true ?_; rfl) | omega | (unfold vp_in; decide))
        exact hgo P3 s2 S2 cl1 mi1 se1 bl1 go2 _ _ _ _ _ hI h34 h143b (by omega) (by omega) (by omega)
      · intro zc739
        first | exact absurd rfl zc739 | exact absurd zc739 (by decide) | exact absurd (by decide) zc739 | (exfalso; first | exact zc739 (by rw [hgo0 (Decidable.not_not.mp zc729)]; exact lg_cmp_s _)) | (exfalso; simp_all; done)
  · intro zc722
    first | exact absurd rfl zc722 | exact absurd zc722 (by decide) | exact absurd (by decide) zc722 | (exfalso; first | exact zc739 (by rw [hgo0 (Decidable.not_not.mp zc729)]; exact lg_cmp_s _)) | (exfalso; simp_all; done)

set_option maxRecDepth 100000 in
set_option maxHeartbeats 4000000 in
theorem cj_wind (l : Launch) (G : kx_G) (hst : l.stackTraces = false) {P : kx_P} {sz : Nat} {M : Nat → Int32} {A : Nat → Nat → Int32} {L : Nat → Nat → Int64} {cl mi se : Nat} {bl : Nat → Nat} {go : Nat → Int64} {Ln i k n : Nat} {xs : Nat → Int32} {o5 o6 o7 : Option Value} {g : kx_F} (h : cI P sz (M, A, L) cl mi se bl) (h3 : P 3 = kI 5 Ln xs) (h143 : P 143 = kL 1 go) (hi : i + 6 ≤ Ln) (hL : Ln ≤ 3072) (hk : k + 8 ≤ 601024) (hn : n + cro bl + 2206 ≤ 7293033) (hse : se ≤ 999) (hB : kx_rB kxL_L false cL_law_ 601024 7293033 (fun r _ _ => r = some (.int 1)) g) (hN : kx_rN l G RL cL_law_ 60 601024 7293033 g) (hW : kx_rW l G RL cL_law_ 60 601024 7293033 g) (hgo : cAf g Ln xs i se k n bl) : g 747 [some (.ref 3), some (.ref 64), some (.ref 93), some (.ref 143), some (.int (nI i)), o5, o6, o7] [] P sz k n := by
  have e1x : nI i + 1 = nI (i + 1) := by rw [show (1 : Int32) = nI 1 from rfl, nI_add]
  have c1x : (nI (i + 1)).toNatClampNeg = i + 1 := nI_clamp (by omega)
  have e2x : nI i + 2 = nI (i + 2) := by rw [show (2 : Int32) = nI 2 from rfl, nI_add]
  have c2x : (nI (i + 2)).toNatClampNeg = i + 2 := nI_clamp (by omega)
  have e3x : nI i + 3 = nI (i + 3) := by rw [show (3 : Int32) = nI 3 from rfl, nI_add]
  have c3x : (nI (i + 3)).toNatClampNeg = i + 3 := nI_clamp (by omega)
  have e4x : nI i + 4 = nI (i + 4) := by rw [show (4 : Int32) = nI 4 from rfl, nI_add]
  have c4x : (nI (i + 4)).toNatClampNeg = i + 4 := nI_clamp (by omega)
  have e5x : nI i + 5 = nI (i + 5) := by rw [show (5 : Int32) = nI 5 from rfl, nI_add]
  have c5x : (nI (i + 5)).toNatClampNeg = i + 5 := nI_clamp (by omega)
  have hc0 : (0 : Int32).toNatClampNeg = 0 := rfl
  obtain ⟨f64, h64⟩ := cI_k64 h
  have hs := cs_wind l G hst h (xs (i + 1)) (xs (i + 2))
  obtain ⟨k9, dw, dm, mc, ms, cl1, mi1, se1, bl1, Q, q1, q2, q3, q4, q5, hw, hmo⟩ := cSs.s (yw := sL_wind) (hh := hL_wind) (Aw := [.ref 64, .int (xs (i + 1)), .int (xs (i + 2)), .ref 143]) h h143 hs (fun d mc ms Po => cw_wind_t l G h64) (fun p hp => by
    simp only [List.mem_cons, List.not_mem_nil, or_false] at hp
    rcases hp with rfl | rfl
    · exact ⟨by decide, fun d => cw_wind_x0 l G h64⟩
    · exact ⟨by decide, fun d => cw_wind_x1 l G h64⟩)
  refine hB bL_law__747 _ _ _ _ _ _ _ kL_law__747 ?_
  dsimp only [bL_law__747, kx_wp, kx_step, kx_lI, kx_lL, kx_lA, kx_gl, kx_pI, kx_pL, kx_pR, kx_pA, kx_pV, kx_s1, kx_s2, kx_sl, kx_pre, kx_c2, kx_pl, kx_cmp, kx_oF, kx_eqN, kx_nil, kx_c1, kx_ft, kx_aI, kx_aL, kx_aR, kx_ln, Nat.reduceAdd, Option.toList, List.cons_append, List.nil_append]
  repeat (simp only [e1x, c1x, e2x, c2x, e3x, c3x, e4x, c4x, e5x, c5x, h3]; try dsimp only [kx_wp, kx_step, kx_lI, kx_lL, kx_lA, kx_gl, kx_pI, kx_pL, kx_pR, kx_pA, kx_pV, kx_s1, kx_s2, kx_sl, kx_pre, kx_c2, kx_pl, kx_cmp, kx_oF, kx_eqN, kx_nil, kx_c1, kx_ft, kx_aI, kx_aL, kx_aR, kx_ln, Nat.reduceAdd, Option.toList, List.cons_append, List.nil_append])
  repeat' apply And.intro
  all_goals try (first | with_reducible assumption | (with_reducible refine ck_nzI ?_; simp; done) | (with_reducible refine ck_nzL ?_; simp; done) | (with_reducible refine vp_in_nI ?_ ?_ <;> first | omega | decide) | (with_reducible refine Nat.le_of_ble_eq_true ?_; rfl) | omega | (unfold vp_in; decide))
  refine hW 158 _ _ _ _ _ _ _ _ _ _ _ _ _ _ _ _ lL_158 hw rfl rfl (Nat.le_of_ble_eq_true rfl) (by omega) (by decide) (by omega) (by omega) dL_law__761 ?_
  rintro r2 P2 s2 ⟨e2, hQ⟩
  rw [e2]
  obtain ⟨⟨fm, h93⟩, h33, hM⟩ := hmo P2 s2 hQ
  have h33 := h33.trans h3
  dsimp only [Option.toList, List.cons_append, List.nil_append]
  refine hB bL_law__764 _ _ _ _ _ _ _ kL_law__764 ?_
  dsimp only [bL_law__764, kx_wp, kx_step, kx_lI, kx_lL, kx_lA, kx_gl, kx_pI, kx_pL, kx_pR, kx_pA, kx_pV, kx_s1, kx_s2, kx_sl, kx_pre, kx_c2, kx_pl, kx_cmp, kx_oF, kx_eqN, kx_nil, kx_c1, kx_ft, kx_aI, kx_aL, kx_aR, kx_ln, Nat.reduceAdd, Option.toList, List.cons_append, List.nil_append]
  repeat (simp only [e1x, c1x, e2x, c2x, e3x, c3x, e4x, c4x, e5x, c5x, h33]; try dsimp only [kx_wp, kx_step, kx_lI, kx_lL, kx_lA, kx_gl, kx_pI, kx_pL, kx_pR, kx_pA, kx_pV, kx_s1, kx_s2, kx_sl, kx_pre, kx_c2, kx_pl, kx_cmp, kx_oF, kx_eqN, kx_nil, kx_c1, kx_ft, kx_aI, kx_aL, kx_aR, kx_ln, Nat.reduceAdd, Option.toList, List.cons_append, List.nil_append])
  repeat' apply And.intro
  all_goals try (first | with_reducible assumption | (with_reducible refine ck_nzI ?_; simp; done) | (with_reducible refine ck_nzL ?_; simp; done) | (with_reducible refine vp_in_nI ?_ ?_ <;> first | omega | decide) | (with_reducible refine Nat.le_of_ble_eq_true ?_; rfl) | omega | (unfold vp_in; decide))
  refine hN.1 160 _ _ _ _ _ _ _ 11 _ _ _ _ _ _ _ _ _ _ lL_160 hM ⟨by decide, rfl⟩ h93 rfl rfl (Nat.le_of_ble_eq_true rfl) (by omega) (by decide) (by omega) (by omega) dL_law__779 ?_
  rintro r3 P3 s3 ⟨e3, v, S2, go2, e4, hT, hk0, hI, h34, h143b, hgo0⟩
  obtain ⟨b9, e5⟩ := hT.2 (by decide)
  subst e5
  rw [e3, e4]
  have h34 := h34.trans h3
  have h93b := cI_93 hI
  have hth := cI_th l G hI
  rw [hk0] at hth
  dsimp only [Option.toList, List.cons_append, List.nil_append]
  refine hB bL_law__782 _ _ _ _ _ _ _ kL_law__782 ?_
  dsimp only [bL_law__782, kx_wp, kx_step, kx_lI, kx_lL, kx_lA, kx_gl, kx_pI, kx_pL, kx_pR, kx_pA, kx_pV, kx_s1, kx_s2, kx_sl, kx_pre, kx_c2, kx_pl, kx_cmp, kx_oF, kx_eqN, kx_nil, kx_c1, kx_ft, kx_aI, kx_aL, kx_aR, kx_ln, Nat.reduceAdd, Option.toList, List.cons_append, List.nil_append]
  repeat (simp only [e1x, c1x, e2x, c2x, e3x, c3x, e4x, c4x, e5x, c5x, h143b, hc0]; try dsimp only [kx_wp, kx_step, kx_lI, kx_lL, kx_lA, kx_gl, kx_pI, kx_pL, kx_pR, kx_pA, kx_pV, kx_s1, kx_s2, kx_sl, kx_pre, kx_c2, kx_pl, kx_cmp, kx_oF, kx_eqN, kx_nil, kx_c1, kx_ft, kx_aI, kx_aL, kx_aR, kx_ln, Nat.reduceAdd, Option.toList, List.cons_append, List.nil_append])
  repeat' apply And.intro
  all_goals try (first | with_reducible assumption | (with_reducible refine ck_nzI ?_; simp; done) | (with_reducible refine ck_nzL ?_; simp; done) | (with_reducible refine vp_in_nI ?_ ?_ <;> first | omega | decide) | (with_reducible refine Nat.le_of_ble_eq_true ?_; rfl) | omega | (unfold vp_in; decide))
  refine hN.1 120 _ _ _ _ _ _ _ 11 _ _ _ _ _ _ _ _ _ _ lL_120 hth.n ⟨by decide, rfl⟩ h93b rfl rfl (Nat.le_of_ble_eq_true rfl) (by omega) (by decide) (by omega) (by omega) dL_law__785 ?_
  rintro r4 P4 s4 ⟨e6, e7, e8⟩
  rw [e6, e7, e8]
  dsimp only [Option.toList, List.cons_append, List.nil_append]
  refine hB bL_law__788 _ _ _ _ _ _ _ kL_law__788 ?_
  dsimp only [bL_law__788, kx_wp, kx_step, kx_lI, kx_lL, kx_lA, kx_gl, kx_pI, kx_pL, kx_pR, kx_pA, kx_pV, kx_s1, kx_s2, kx_sl, kx_pre, kx_c2, kx_pl, kx_cmp, kx_oF, kx_eqN, kx_nil, kx_c1, kx_ft, kx_aI, kx_aL, kx_aR, kx_ln, Nat.reduceAdd, Option.toList, List.cons_append, List.nil_append]
  repeat (simp only [e1x, c1x, e2x, c2x, e3x, c3x, e4x, c4x, e5x, c5x, h143b, hc0]; try dsimp only [kx_wp, kx_step, kx_lI, kx_lL, kx_lA, kx_gl, kx_pI, kx_pL, kx_pR, kx_pA, kx_pV, kx_s1, kx_s2, kx_sl, kx_pre, kx_c2, kx_pl, kx_cmp, kx_oF, kx_eqN, kx_nil, kx_c1, kx_ft, kx_aI, kx_aL, kx_aR, kx_ln, Nat.reduceAdd, Option.toList, List.cons_append, List.nil_append])
  repeat' apply And.intro
  all_goals try (first | with_reducible assumption | (with_reducible refine ck_nzI ?_; simp; done) | (with_reducible refine ck_nzL ?_; simp; done) | (with_reducible refine vp_in_nI ?_ ?_ <;> first | omega | decide) | (with_reducible refine Nat.le_of_ble_eq_true ?_; rfl) | omega | (unfold vp_in; decide))
  · intro zc790
    refine hB bL_law__795 _ _ _ _ _ _ _ kL_law__795 ?_
    dsimp only [bL_law__795, kx_wp, kx_step, kx_lI, kx_lL, kx_lA, kx_gl, kx_pI, kx_pL, kx_pR, kx_pA, kx_pV, kx_s1, kx_s2, kx_sl, kx_pre, kx_c2, kx_pl, kx_cmp, kx_oF, kx_eqN, kx_nil, kx_c1, kx_ft, kx_aI, kx_aL, kx_aR, kx_ln, Nat.reduceAdd, Option.toList, List.cons_append, List.nil_append]
    repeat (simp only [e1x, c1x, e2x, c2x, e3x, c3x, e4x, c4x, e5x, c5x, h143b, hc0]; try dsimp only [kx_wp, kx_step, kx_lI, kx_lL, kx_lA, kx_gl, kx_pI, kx_pL, kx_pR, kx_pA, kx_pV, kx_s1, kx_s2, kx_sl, kx_pre, kx_c2, kx_pl, kx_cmp, kx_oF, kx_eqN, kx_nil, kx_c1, kx_ft, kx_aI, kx_aL, kx_aR, kx_ln, Nat.reduceAdd, Option.toList, List.cons_append, List.nil_append])
    repeat' apply And.intro
    all_goals try (first | with_reducible assumption | (with_reducible refine ck_nzI ?_; simp; done) | (with_reducible refine ck_nzL ?_; simp; done) | (with_reducible refine vp_in_nI ?_ ?_ <;> first | omega | decide) | (with_reducible refine Nat.le_of_ble_eq_true ?_; rfl) | omega | (unfold vp_in; decide))
    · intro zc797
      refine hB bL_law__812 _ _ _ _ _ _ _ kL_law__812 ?_
      dsimp only [bL_law__812, kx_wp, kx_step, kx_lI, kx_lL, kx_lA, kx_gl, kx_pI, kx_pL, kx_pR, kx_pA, kx_pV, kx_s1, kx_s2, kx_sl, kx_pre, kx_c2, kx_pl, kx_cmp, kx_oF, kx_eqN, kx_nil, kx_c1, kx_ft, kx_aI, kx_aL, kx_aR, kx_ln, Nat.reduceAdd, Option.toList, List.cons_append, List.nil_append]
      repeat (simp only [e1x, c1x, e2x, c2x, e3x, c3x, e4x, c4x, e5x, c5x, h143b, hc0]; try dsimp only [kx_wp, kx_step, kx_lI, kx_lL, kx_lA, kx_gl, kx_pI, kx_pL, kx_pR, kx_pA, kx_pV, kx_s1, kx_s2, kx_sl, kx_pre, kx_c2, kx_pl, kx_cmp, kx_oF, kx_eqN, kx_nil, kx_c1, kx_ft, kx_aI, kx_aL, kx_aR, kx_ln, Nat.reduceAdd, Option.toList, List.cons_append, List.nil_append])
      repeat' apply And.intro
      all_goals try (first | with_reducible assumption | (with_reducible refine ck_nzI ?_; simp; done) | (with_reducible refine ck_nzL ?_; simp; done) | (with_reducible refine vp_in_nI ?_ ?_ <;> first | omega | decide) | (with_reducible refine Nat.le_of_ble_eq_true ?_; rfl) | omega | (unfold vp_in; decide))
      exact hgo P3 s2 S2 cl1 mi1 se1 bl1 go2 _ _ _ _ _ hI h34 h143b (by omega) (by omega) (by omega)
    · intro zc797
      refine hB bL_law__800 _ _ _ _ _ _ _ kL_law__800 ?_
      dsimp only [bL_law__800, kx_wp, kx_step, kx_lI, kx_lL, kx_lA, kx_gl, kx_pI, kx_pL, kx_pR, kx_pA, kx_pV, kx_s1, kx_s2, kx_sl, kx_pre, kx_c2, kx_pl, kx_cmp, kx_oF, kx_eqN, kx_nil, kx_c1, kx_ft, kx_aI, kx_aL, kx_aR, kx_ln, Nat.reduceAdd, Option.toList, List.cons_append, List.nil_append]
      repeat (simp only [e1x, c1x, e2x, c2x, e3x, c3x, e4x, c4x, e5x, c5x, h143b, hc0]; try dsimp only [kx_wp, kx_step, kx_lI, kx_lL, kx_lA, kx_gl, kx_pI, kx_pL, kx_pR, kx_pA, kx_pV, kx_s1, kx_s2, kx_sl, kx_pre, kx_c2, kx_pl, kx_cmp, kx_oF, kx_eqN, kx_nil, kx_c1, kx_ft, kx_aI, kx_aL, kx_aR, kx_ln, Nat.reduceAdd, Option.toList, List.cons_append, List.nil_append])
      repeat' apply And.intro
      all_goals try (first | with_reducible assumption | (with_reducible refine ck_nzI ?_; simp; done) | (with_reducible refine ck_nzL ?_; simp; done) | (with_reducible refine vp_in_nI ?_ ?_ <;> first | omega | decide) | (with_reducible refine Nat.le_of_ble_eq_true ?_; rfl) | omega | (unfold vp_in; decide))
      · intro zc807
        refine hB bL_law__812 _ _ _ _ _ _ _ kL_law__812 ?_
        dsimp only [bL_law__812, kx_wp, kx_step, kx_lI, kx_lL, kx_lA, kx_gl, kx_pI, kx_pL, kx_pR, kx_pA, kx_pV, kx_s1, kx_s2, kx_sl, kx_pre, kx_c2, kx_pl, kx_cmp, kx_oF, kx_eqN, kx_nil, kx_c1, kx_ft, kx_aI, kx_aL, kx_aR, kx_ln, Nat.reduceAdd, Option.toList, List.cons_append, List.nil_append]
        repeat (simp only [e1x, c1x, e2x, c2x, e3x, c3x, e4x, c4x, e5x, c5x, h143b, hc0]; try dsimp only [kx_wp, kx_step, kx_lI, kx_lL, kx_lA, kx_gl, kx_pI, kx_pL, kx_pR, kx_pA, kx_pV, kx_s1, kx_s2, kx_sl, kx_pre, kx_c2, kx_pl, kx_cmp, kx_oF, kx_eqN, kx_nil, kx_c1, kx_ft, kx_aI, kx_aL, kx_aR, kx_ln, Nat.reduceAdd, Option.toList, List.cons_append, List.nil_append])
        repeat' apply And.intro
        all_goals try (first | with_reducible assumption | (with_reducible refine ck_nzI ?_; simp; done) | (with_reducible refine ck_nzL ?_; simp; done) | (with_reducible refine vp_in_nI ?_ ?_ <;> first | omega | decide) | (with_reducible refine Nat.le_of_ble_eq_true ?_; rfl) | omega | (unfold vp_in; decide))
        exact hgo P3 s2 S2 cl1 mi1 se1 bl1 go2 _ _ _ _ _ hI h34 h143b (by omega) (by omega) (by omega)
      · intro zc807
        first | exact absurd rfl zc807 | exact absurd zc807 (by decide) | exact absurd (by decide) zc807 | (exfalso; first | exact zc807 (by rw [hgo0 (Decidable.not_not.mp zc797)]; exact lg_cmp_s _)) | (exfalso; simp_all; done)
  · intro zc790
    first | exact absurd rfl zc790 | exact absurd zc790 (by decide) | exact absurd (by decide) zc790 | (exfalso; first | exact zc807 (by rw [hgo0 (Decidable.not_not.mp zc797)]; exact lg_cmp_s _)) | (exfalso; simp_all; done)

set_option maxRecDepth 100000 in
set_option maxHeartbeats 4000000 in
theorem cj_oil (l : Launch) (G : kx_G) (hst : l.stackTraces = false) {P : kx_P} {sz : Nat} {M : Nat → Int32} {A : Nat → Nat → Int32} {L : Nat → Nat → Int64} {cl mi se : Nat} {bl : Nat → Nat} {go : Nat → Int64} {Ln i k n : Nat} {xs : Nat → Int32} {o5 o6 o7 : Option Value} {g : kx_F} (h : cI P sz (M, A, L) cl mi se bl) (h3 : P 3 = kI 5 Ln xs) (h143 : P 143 = kL 1 go) (hi : i + 6 ≤ Ln) (hL : Ln ≤ 3072) (hk : k + 8 ≤ 601024) (hn : n + cro bl + 2206 ≤ 7293033) (hse : se ≤ 999) (hB : kx_rB kxL_L false cL_law_ 601024 7293033 (fun r _ _ => r = some (.int 1)) g) (hN : kx_rN l G RL cL_law_ 60 601024 7293033 g) (hW : kx_rW l G RL cL_law_ 60 601024 7293033 g) (hgo : cAf g Ln xs i se k n bl) : g 815 [some (.ref 3), some (.ref 64), some (.ref 93), some (.ref 143), some (.int (nI i)), o5, o6, o7] [] P sz k n := by
  have e1x : nI i + 1 = nI (i + 1) := by rw [show (1 : Int32) = nI 1 from rfl, nI_add]
  have c1x : (nI (i + 1)).toNatClampNeg = i + 1 := nI_clamp (by omega)
  have e2x : nI i + 2 = nI (i + 2) := by rw [show (2 : Int32) = nI 2 from rfl, nI_add]
  have c2x : (nI (i + 2)).toNatClampNeg = i + 2 := nI_clamp (by omega)
  have e3x : nI i + 3 = nI (i + 3) := by rw [show (3 : Int32) = nI 3 from rfl, nI_add]
  have c3x : (nI (i + 3)).toNatClampNeg = i + 3 := nI_clamp (by omega)
  have e4x : nI i + 4 = nI (i + 4) := by rw [show (4 : Int32) = nI 4 from rfl, nI_add]
  have c4x : (nI (i + 4)).toNatClampNeg = i + 4 := nI_clamp (by omega)
  have e5x : nI i + 5 = nI (i + 5) := by rw [show (5 : Int32) = nI 5 from rfl, nI_add]
  have c5x : (nI (i + 5)).toNatClampNeg = i + 5 := nI_clamp (by omega)
  have hc0 : (0 : Int32).toNatClampNeg = 0 := rfl
  obtain ⟨f64, h64⟩ := cI_k64 h
  have hs := cs_oil l G hst h (xs (i + 1))
  obtain ⟨k9, dw, dm, mc, ms, cl1, mi1, se1, bl1, Q, q1, q2, q3, q4, q5, hw, hmo⟩ := cSs.s (yw := sL_oil) (hh := hL_oil) (Aw := [.ref 64, .int (xs (i + 1)), .ref 143]) h h143 hs (fun d mc ms Po => cw_oil_t l G h64) (fun p hp => by
    simp only [List.mem_cons, List.not_mem_nil, or_false] at hp
    rcases hp with rfl
    · exact ⟨by decide, fun d => cw_oil_x0 l G h64⟩)
  refine hB bL_law__815 _ _ _ _ _ _ _ kL_law__815 ?_
  dsimp only [bL_law__815, kx_wp, kx_step, kx_lI, kx_lL, kx_lA, kx_gl, kx_pI, kx_pL, kx_pR, kx_pA, kx_pV, kx_s1, kx_s2, kx_sl, kx_pre, kx_c2, kx_pl, kx_cmp, kx_oF, kx_eqN, kx_nil, kx_c1, kx_ft, kx_aI, kx_aL, kx_aR, kx_ln, Nat.reduceAdd, Option.toList, List.cons_append, List.nil_append]
  repeat (simp only [e1x, c1x, e2x, c2x, e3x, c3x, e4x, c4x, e5x, c5x, h3]; try dsimp only [kx_wp, kx_step, kx_lI, kx_lL, kx_lA, kx_gl, kx_pI, kx_pL, kx_pR, kx_pA, kx_pV, kx_s1, kx_s2, kx_sl, kx_pre, kx_c2, kx_pl, kx_cmp, kx_oF, kx_eqN, kx_nil, kx_c1, kx_ft, kx_aI, kx_aL, kx_aR, kx_ln, Nat.reduceAdd, Option.toList, List.cons_append, List.nil_append])
  repeat' apply And.intro
  all_goals try (first | with_reducible assumption | (with_reducible refine ck_nzI ?_; simp; done) | (with_reducible refine ck_nzL ?_; simp; done) | (with_reducible refine vp_in_nI ?_ ?_ <;> first | omega | decide) | (with_reducible refine Nat.le_of_ble_eq_true ?_; rfl) | omega | (unfold vp_in; decide))
  refine hW 161 _ _ _ _ _ _ _ _ _ _ _ _ _ _ _ _ lL_161 hw rfl rfl (Nat.le_of_ble_eq_true rfl) (by omega) (by decide) (by omega) (by omega) dL_law__823 ?_
  rintro r2 P2 s2 ⟨e2, hQ⟩
  rw [e2]
  obtain ⟨⟨fm, h93⟩, h33, hM⟩ := hmo P2 s2 hQ
  have h33 := h33.trans h3
  dsimp only [Option.toList, List.cons_append, List.nil_append]
  refine hB bL_law__826 _ _ _ _ _ _ _ kL_law__826 ?_
  dsimp only [bL_law__826, kx_wp, kx_step, kx_lI, kx_lL, kx_lA, kx_gl, kx_pI, kx_pL, kx_pR, kx_pA, kx_pV, kx_s1, kx_s2, kx_sl, kx_pre, kx_c2, kx_pl, kx_cmp, kx_oF, kx_eqN, kx_nil, kx_c1, kx_ft, kx_aI, kx_aL, kx_aR, kx_ln, Nat.reduceAdd, Option.toList, List.cons_append, List.nil_append]
  repeat (simp only [e1x, c1x, e2x, c2x, e3x, c3x, e4x, c4x, e5x, c5x, h33]; try dsimp only [kx_wp, kx_step, kx_lI, kx_lL, kx_lA, kx_gl, kx_pI, kx_pL, kx_pR, kx_pA, kx_pV, kx_s1, kx_s2, kx_sl, kx_pre, kx_c2, kx_pl, kx_cmp, kx_oF, kx_eqN, kx_nil, kx_c1, kx_ft, kx_aI, kx_aL, kx_aR, kx_ln, Nat.reduceAdd, Option.toList, List.cons_append, List.nil_append])
  repeat' apply And.intro
  all_goals try (first | with_reducible assumption | (with_reducible refine ck_nzI ?_; simp; done) | (with_reducible refine ck_nzL ?_; simp; done) | (with_reducible refine vp_in_nI ?_ ?_ <;> first | omega | decide) | (with_reducible refine Nat.le_of_ble_eq_true ?_; rfl) | omega | (unfold vp_in; decide))
  refine hN.1 163 _ _ _ _ _ _ _ 11 _ _ _ _ _ _ _ _ _ _ lL_163 hM ⟨by decide, rfl⟩ h93 rfl rfl (Nat.le_of_ble_eq_true rfl) (by omega) (by decide) (by omega) (by omega) dL_law__835 ?_
  rintro r3 P3 s3 ⟨e3, v, S2, go2, e4, hT, hk0, hI, h34, h143b, hgo0⟩
  obtain ⟨b9, e5⟩ := hT.2 (by decide)
  subst e5
  rw [e3, e4]
  have h34 := h34.trans h3
  have h93b := cI_93 hI
  have hth := cI_th l G hI
  rw [hk0] at hth
  dsimp only [Option.toList, List.cons_append, List.nil_append]
  refine hB bL_law__838 _ _ _ _ _ _ _ kL_law__838 ?_
  dsimp only [bL_law__838, kx_wp, kx_step, kx_lI, kx_lL, kx_lA, kx_gl, kx_pI, kx_pL, kx_pR, kx_pA, kx_pV, kx_s1, kx_s2, kx_sl, kx_pre, kx_c2, kx_pl, kx_cmp, kx_oF, kx_eqN, kx_nil, kx_c1, kx_ft, kx_aI, kx_aL, kx_aR, kx_ln, Nat.reduceAdd, Option.toList, List.cons_append, List.nil_append]
  repeat (simp only [e1x, c1x, e2x, c2x, e3x, c3x, e4x, c4x, e5x, c5x, h143b, hc0]; try dsimp only [kx_wp, kx_step, kx_lI, kx_lL, kx_lA, kx_gl, kx_pI, kx_pL, kx_pR, kx_pA, kx_pV, kx_s1, kx_s2, kx_sl, kx_pre, kx_c2, kx_pl, kx_cmp, kx_oF, kx_eqN, kx_nil, kx_c1, kx_ft, kx_aI, kx_aL, kx_aR, kx_ln, Nat.reduceAdd, Option.toList, List.cons_append, List.nil_append])
  repeat' apply And.intro
  all_goals try (first | with_reducible assumption | (with_reducible refine ck_nzI ?_; simp; done) | (with_reducible refine ck_nzL ?_; simp; done) | (with_reducible refine vp_in_nI ?_ ?_ <;> first | omega | decide) | (with_reducible refine Nat.le_of_ble_eq_true ?_; rfl) | omega | (unfold vp_in; decide))
  refine hN.1 120 _ _ _ _ _ _ _ 11 _ _ _ _ _ _ _ _ _ _ lL_120 hth.n ⟨by decide, rfl⟩ h93b rfl rfl (Nat.le_of_ble_eq_true rfl) (by omega) (by decide) (by omega) (by omega) dL_law__841 ?_
  rintro r4 P4 s4 ⟨e6, e7, e8⟩
  rw [e6, e7, e8]
  dsimp only [Option.toList, List.cons_append, List.nil_append]
  refine hB bL_law__844 _ _ _ _ _ _ _ kL_law__844 ?_
  dsimp only [bL_law__844, kx_wp, kx_step, kx_lI, kx_lL, kx_lA, kx_gl, kx_pI, kx_pL, kx_pR, kx_pA, kx_pV, kx_s1, kx_s2, kx_sl, kx_pre, kx_c2, kx_pl, kx_cmp, kx_oF, kx_eqN, kx_nil, kx_c1, kx_ft, kx_aI, kx_aL, kx_aR, kx_ln, Nat.reduceAdd, Option.toList, List.cons_append, List.nil_append]
  repeat (simp only [e1x, c1x, e2x, c2x, e3x, c3x, e4x, c4x, e5x, c5x, h143b, hc0]; try dsimp only [kx_wp, kx_step, kx_lI, kx_lL, kx_lA, kx_gl, kx_pI, kx_pL, kx_pR, kx_pA, kx_pV, kx_s1, kx_s2, kx_sl, kx_pre, kx_c2, kx_pl, kx_cmp, kx_oF, kx_eqN, kx_nil, kx_c1, kx_ft, kx_aI, kx_aL, kx_aR, kx_ln, Nat.reduceAdd, Option.toList, List.cons_append, List.nil_append])
  repeat' apply And.intro
  all_goals try (first | with_reducible assumption | (with_reducible refine ck_nzI ?_; simp; done) | (with_reducible refine ck_nzL ?_; simp; done) | (with_reducible refine vp_in_nI ?_ ?_ <;> first | omega | decide) | (with_reducible refine Nat.le_of_ble_eq_true ?_; rfl) | omega | (unfold vp_in; decide))
  · intro zc846
    refine hB bL_law__851 _ _ _ _ _ _ _ kL_law__851 ?_
    dsimp only [bL_law__851, kx_wp, kx_step, kx_lI, kx_lL, kx_lA, kx_gl, kx_pI, kx_pL, kx_pR, kx_pA, kx_pV, kx_s1, kx_s2, kx_sl, kx_pre, kx_c2, kx_pl, kx_cmp, kx_oF, kx_eqN, kx_nil, kx_c1, kx_ft, kx_aI, kx_aL, kx_aR, kx_ln, Nat.reduceAdd, Option.toList, List.cons_append, List.nil_append]
    repeat (simp only [e1x, c1x, e2x, c2x, e3x, c3x, e4x, c4x, e5x, c5x, h143b, hc0]; try dsimp only [kx_wp, kx_step, kx_lI, kx_lL, kx_lA, kx_gl, kx_pI, kx_pL, kx_pR, kx_pA, kx_pV, kx_s1, kx_s2, kx_sl, kx_pre, kx_c2, kx_pl, kx_cmp, kx_oF, kx_eqN, kx_nil, kx_c1, kx_ft, kx_aI, kx_aL, kx_aR, kx_ln, Nat.reduceAdd, Option.toList, List.cons_append, List.nil_append])
    repeat' apply And.intro
    all_goals try (first | with_reducible assumption | (with_reducible refine ck_nzI ?_; simp; done) | (with_reducible refine ck_nzL ?_; simp; done) | (with_reducible refine vp_in_nI ?_ ?_ <;> first | omega | decide) | (with_reducible refine Nat.le_of_ble_eq_true ?_; rfl) | omega | (unfold vp_in; decide))
    · intro zc853
      refine hB bL_law__868 _ _ _ _ _ _ _ kL_law__868 ?_
      dsimp only [bL_law__868, kx_wp, kx_step, kx_lI, kx_lL, kx_lA, kx_gl, kx_pI, kx_pL, kx_pR, kx_pA, kx_pV, kx_s1, kx_s2, kx_sl, kx_pre, kx_c2, kx_pl, kx_cmp, kx_oF, kx_eqN, kx_nil, kx_c1, kx_ft, kx_aI, kx_aL, kx_aR, kx_ln, Nat.reduceAdd, Option.toList, List.cons_append, List.nil_append]
      repeat (simp only [e1x, c1x, e2x, c2x, e3x, c3x, e4x, c4x, e5x, c5x, h143b, hc0]; try dsimp only [kx_wp, kx_step, kx_lI, kx_lL, kx_lA, kx_gl, kx_pI, kx_pL, kx_pR, kx_pA, kx_pV, kx_s1, kx_s2, kx_sl, kx_pre, kx_c2, kx_pl, kx_cmp, kx_oF, kx_eqN, kx_nil, kx_c1, kx_ft, kx_aI, kx_aL, kx_aR, kx_ln, Nat.reduceAdd, Option.toList, List.cons_append, List.nil_append])
      repeat' apply And.intro
      all_goals try (first | with_reducible assumption | (with_reducible refine ck_nzI ?_; simp; done) | (with_reducible refine ck_nzL ?_; simp; done) | (with_reducible refine vp_in_nI ?_ ?_ <;> first | omega | decide) | (with_reducible refine Nat.le_of_ble_eq_true ?_; rfl) | omega | (unfold vp_in; decide))
      exact hgo P3 s2 S2 cl1 mi1 se1 bl1 go2 _ _ _ _ _ hI h34 h143b (by omega) (by omega) (by omega)
    · intro zc853
      refine hB bL_law__856 _ _ _ _ _ _ _ kL_law__856 ?_
      dsimp only [bL_law__856, kx_wp, kx_step, kx_lI, kx_lL, kx_lA, kx_gl, kx_pI, kx_pL, kx_pR, kx_pA, kx_pV, kx_s1, kx_s2, kx_sl, kx_pre, kx_c2, kx_pl, kx_cmp, kx_oF, kx_eqN, kx_nil, kx_c1, kx_ft, kx_aI, kx_aL, kx_aR, kx_ln, Nat.reduceAdd, Option.toList, List.cons_append, List.nil_append]
      repeat (simp only [e1x, c1x, e2x, c2x, e3x, c3x, e4x, c4x, e5x, c5x, h143b, hc0]; try dsimp only [kx_wp, kx_step, kx_lI, kx_lL, kx_lA, kx_gl, kx_pI, kx_pL, kx_pR, kx_pA, kx_pV, kx_s1, kx_s2, kx_sl, kx_pre, kx_c2, kx_pl, kx_cmp, kx_oF, kx_eqN, kx_nil, kx_c1, kx_ft, kx_aI, kx_aL, kx_aR, kx_ln, Nat.reduceAdd, Option.toList, List.cons_append, List.nil_append])
      repeat' apply And.intro
      all_goals try (first | with_reducible assumption | (with_reducible refine ck_nzI ?_; simp; done) | (with_reducible refine ck_nzL ?_; simp; done) | (with_reducible refine vp_in_nI ?_ ?_ <;> first | omega | decide) | (with_reducible refine Nat.le_of_ble_eq_true ?_; rfl) | omega | (unfold vp_in; decide))
      · intro zc863
        refine hB bL_law__868 _ _ _ _ _ _ _ kL_law__868 ?_
        dsimp only [bL_law__868, kx_wp, kx_step, kx_lI, kx_lL, kx_lA, kx_gl, kx_pI, kx_pL, kx_pR, kx_pA, kx_pV, kx_s1, kx_s2, kx_sl, kx_pre, kx_c2, kx_pl, kx_cmp, kx_oF, kx_eqN, kx_nil, kx_c1, kx_ft, kx_aI, kx_aL, kx_aR, kx_ln, Nat.reduceAdd, Option.toList, List.cons_append, List.nil_append]
        repeat (simp only [e1x, c1x, e2x, c2x, e3x, c3x, e4x, c4x, e5x, c5x, h143b, hc0]; try dsimp only [kx_wp, kx_step, kx_lI, kx_lL, kx_lA, kx_gl, kx_pI, kx_pL, kx_pR, kx_pA, kx_pV, kx_s1, kx_s2, kx_sl, kx_pre, kx_c2, kx_pl, kx_cmp, kx_oF, kx_eqN, kx_nil, kx_c1, kx_ft, kx_aI, kx_aL, kx_aR, kx_ln, Nat.reduceAdd, Option.toList, List.cons_append, List.nil_append])
        repeat' apply And.intro
        all_goals try (first | with_reducible assumption | (with_reducible refine ck_nzI ?_; simp; done) | (with_reducible refine ck_nzL ?_; simp; done) | (with_reducible refine vp_in_nI ?_ ?_ <;> first | omega | decide) | (with_reducible refine Nat.le_of_ble_eq_true ?_; rfl) | omega | (unfold vp_in; decide))
        exact hgo P3 s2 S2 cl1 mi1 se1 bl1 go2 _ _ _ _ _ hI h34 h143b (by omega) (by omega) (by omega)
      · intro zc863
        first | exact absurd rfl zc863 | exact absurd zc863 (by decide) | exact absurd (by decide) zc863 | (exfalso; first | exact zc863 (by rw [hgo0 (Decidable.not_not.mp zc853)]; exact lg_cmp_s _)) | (exfalso; simp_all; done)
  · intro zc846
    first | exact absurd rfl zc846 | exact absurd zc846 (by decide) | exact absurd (by decide) zc846 | (exfalso; first | exact zc863 (by rw [hgo0 (Decidable.not_not.mp zc853)]; exact lg_cmp_s _)) | (exfalso; simp_all; done)

set_option maxRecDepth 100000 in
set_option maxHeartbeats 4000000 in
theorem cj_hands_0 (l : Launch) (G : kx_G) (hst : l.stackTraces = false) {P : kx_P} {sz : Nat} {M : Nat → Int32} {A : Nat → Nat → Int32} {L : Nat → Nat → Int64} {cl mi se : Nat} {bl : Nat → Nat} {go : Nat → Int64} {Ln i k n : Nat} {xs : Nat → Int32} {o5 o6 o7 : Option Value} {g : kx_F} (h : cI P sz (M, A, L) cl mi se bl) (h3 : P 3 = kI 5 Ln xs) (h143 : P 143 = kL 1 go) (hi : i + 6 ≤ Ln) (hL : Ln ≤ 3072) (hk : k + 8 ≤ 601024) (hn : n + cro bl + 2206 ≤ 7293033) (hse : se ≤ 999) (hb : xs (i + 3) = 0) (hB : kx_rB kxL_L false cL_law_ 601024 7293033 (fun r _ _ => r = some (.int 1)) g) (hN : kx_rN l G RL cL_law_ 60 601024 7293033 g) (hW : kx_rW l G RL cL_law_ 60 601024 7293033 g) (hgo : cAf g Ln xs i se k n bl) : g 871 [some (.ref 3), some (.ref 64), some (.ref 93), some (.ref 143), some (.int (nI i)), o5, o6, o7] [] P sz k n := by
  have e1x : nI i + 1 = nI (i + 1) := by rw [show (1 : Int32) = nI 1 from rfl, nI_add]
  have c1x : (nI (i + 1)).toNatClampNeg = i + 1 := nI_clamp (by omega)
  have e2x : nI i + 2 = nI (i + 2) := by rw [show (2 : Int32) = nI 2 from rfl, nI_add]
  have c2x : (nI (i + 2)).toNatClampNeg = i + 2 := nI_clamp (by omega)
  have e3x : nI i + 3 = nI (i + 3) := by rw [show (3 : Int32) = nI 3 from rfl, nI_add]
  have c3x : (nI (i + 3)).toNatClampNeg = i + 3 := nI_clamp (by omega)
  have e4x : nI i + 4 = nI (i + 4) := by rw [show (4 : Int32) = nI 4 from rfl, nI_add]
  have c4x : (nI (i + 4)).toNatClampNeg = i + 4 := nI_clamp (by omega)
  have e5x : nI i + 5 = nI (i + 5) := by rw [show (5 : Int32) = nI 5 from rfl, nI_add]
  have c5x : (nI (i + 5)).toNatClampNeg = i + 5 := nI_clamp (by omega)
  have hc0 : (0 : Int32).toNatClampNeg = 0 := rfl
  obtain ⟨f64, h64⟩ := cI_k64 h
  have hs := cs_hands l G hst h (xs (i + 1)) (xs (i + 2)) 0
  obtain ⟨k9, dw, dm, mc, ms, cl1, mi1, se1, bl1, Q, q1, q2, q3, q4, q5, hw, hmo⟩ := cSs.s (yw := sL_hands) (hh := hL_hands) (Aw := [.ref 64, .int (xs (i + 1)), .int (xs (i + 2)), .int 0, .ref 143]) h h143 hs (fun d mc ms Po => cw_hands_t l G h64) (fun p hp => by
    simp only [List.mem_cons, List.not_mem_nil, or_false] at hp
    rcases hp with rfl | rfl
    · exact ⟨by decide, fun d => cw_hands_x0 l G h64⟩
    · exact ⟨by decide, fun d => cw_hands_x1 l G h64⟩)
  refine hB bL_law__871 _ _ _ _ _ _ _ kL_law__871 ?_
  dsimp only [bL_law__871, kx_wp, kx_step, kx_lI, kx_lL, kx_lA, kx_gl, kx_pI, kx_pL, kx_pR, kx_pA, kx_pV, kx_s1, kx_s2, kx_sl, kx_pre, kx_c2, kx_pl, kx_cmp, kx_oF, kx_eqN, kx_nil, kx_c1, kx_ft, kx_aI, kx_aL, kx_aR, kx_ln, Nat.reduceAdd, Option.toList, List.cons_append, List.nil_append]
  repeat (simp only [e1x, c1x, e2x, c2x, e3x, c3x, e4x, c4x, e5x, c5x, h3]; try dsimp only [kx_wp, kx_step, kx_lI, kx_lL, kx_lA, kx_gl, kx_pI, kx_pL, kx_pR, kx_pA, kx_pV, kx_s1, kx_s2, kx_sl, kx_pre, kx_c2, kx_pl, kx_cmp, kx_oF, kx_eqN, kx_nil, kx_c1, kx_ft, kx_aI, kx_aL, kx_aR, kx_ln, Nat.reduceAdd, Option.toList, List.cons_append, List.nil_append])
  repeat' apply And.intro
  all_goals try (first | with_reducible assumption | (with_reducible refine ck_nzI ?_; simp; done) | (with_reducible refine ck_nzL ?_; simp; done) | (with_reducible refine vp_in_nI ?_ ?_ <;> first | omega | decide) | (with_reducible refine Nat.le_of_ble_eq_true ?_; rfl) | omega | (unfold vp_in; decide))
  · intro zc890
    refine hB bL_law__897 _ _ _ _ _ _ _ kL_law__897 ?_
    dsimp only [bL_law__897, kx_wp, kx_step, kx_lI, kx_lL, kx_lA, kx_gl, kx_pI, kx_pL, kx_pR, kx_pA, kx_pV, kx_s1, kx_s2, kx_sl, kx_pre, kx_c2, kx_pl, kx_cmp, kx_oF, kx_eqN, kx_nil, kx_c1, kx_ft, kx_aI, kx_aL, kx_aR, kx_ln, Nat.reduceAdd, Option.toList, List.cons_append, List.nil_append]
    repeat (simp only [e1x, c1x, e2x, c2x, e3x, c3x, e4x, c4x, e5x, c5x, h3]; try dsimp only [kx_wp, kx_step, kx_lI, kx_lL, kx_lA, kx_gl, kx_pI, kx_pL, kx_pR, kx_pA, kx_pV, kx_s1, kx_s2, kx_sl, kx_pre, kx_c2, kx_pl, kx_cmp, kx_oF, kx_eqN, kx_nil, kx_c1, kx_ft, kx_aI, kx_aL, kx_aR, kx_ln, Nat.reduceAdd, Option.toList, List.cons_append, List.nil_append])
    repeat' apply And.intro
    all_goals try (first | with_reducible assumption | (with_reducible refine ck_nzI ?_; simp; done) | (with_reducible refine ck_nzL ?_; simp; done) | (with_reducible refine vp_in_nI ?_ ?_ <;> first | omega | decide) | (with_reducible refine Nat.le_of_ble_eq_true ?_; rfl) | omega | (unfold vp_in; decide))
    refine hB bL_law__898 _ _ _ _ _ _ _ kL_law__898 ?_
    dsimp only [bL_law__898, kx_wp, kx_step, kx_lI, kx_lL, kx_lA, kx_gl, kx_pI, kx_pL, kx_pR, kx_pA, kx_pV, kx_s1, kx_s2, kx_sl, kx_pre, kx_c2, kx_pl, kx_cmp, kx_oF, kx_eqN, kx_nil, kx_c1, kx_ft, kx_aI, kx_aL, kx_aR, kx_ln, Nat.reduceAdd, Option.toList, List.cons_append, List.nil_append]
    repeat (simp only [e1x, c1x, e2x, c2x, e3x, c3x, e4x, c4x, e5x, c5x, h3]; try dsimp only [kx_wp, kx_step, kx_lI, kx_lL, kx_lA, kx_gl, kx_pI, kx_pL, kx_pR, kx_pA, kx_pV, kx_s1, kx_s2, kx_sl, kx_pre, kx_c2, kx_pl, kx_cmp, kx_oF, kx_eqN, kx_nil, kx_c1, kx_ft, kx_aI, kx_aL, kx_aR, kx_ln, Nat.reduceAdd, Option.toList, List.cons_append, List.nil_append])
    repeat' apply And.intro
    all_goals try (first | with_reducible assumption | (with_reducible refine ck_nzI ?_; simp; done) | (with_reducible refine ck_nzL ?_; simp; done) | (with_reducible refine vp_in_nI ?_ ?_ <;> first | omega | decide) | (with_reducible refine Nat.le_of_ble_eq_true ?_; rfl) | omega | (unfold vp_in; decide))
    refine hW 164 _ _ _ _ _ _ _ _ _ _ _ _ _ _ _ _ lL_164 hw rfl rfl (Nat.le_of_ble_eq_true rfl) (by omega) (by decide) (by omega) (by omega) dL_law__899 ?_
    rintro r2 P2 s2 ⟨e2, hQ⟩
    rw [e2]
    obtain ⟨⟨fm, h93⟩, h33, hM⟩ := hmo P2 s2 hQ
    have h33 := h33.trans h3
    dsimp only [Option.toList, List.cons_append, List.nil_append]
    refine hB bL_law__902 _ _ _ _ _ _ _ kL_law__902 ?_
    dsimp only [bL_law__902, kx_wp, kx_step, kx_lI, kx_lL, kx_lA, kx_gl, kx_pI, kx_pL, kx_pR, kx_pA, kx_pV, kx_s1, kx_s2, kx_sl, kx_pre, kx_c2, kx_pl, kx_cmp, kx_oF, kx_eqN, kx_nil, kx_c1, kx_ft, kx_aI, kx_aL, kx_aR, kx_ln, Nat.reduceAdd, Option.toList, List.cons_append, List.nil_append]
    repeat (simp only [e1x, c1x, e2x, c2x, e3x, c3x, e4x, c4x, e5x, c5x, h33]; try dsimp only [kx_wp, kx_step, kx_lI, kx_lL, kx_lA, kx_gl, kx_pI, kx_pL, kx_pR, kx_pA, kx_pV, kx_s1, kx_s2, kx_sl, kx_pre, kx_c2, kx_pl, kx_cmp, kx_oF, kx_eqN, kx_nil, kx_c1, kx_ft, kx_aI, kx_aL, kx_aR, kx_ln, Nat.reduceAdd, Option.toList, List.cons_append, List.nil_append])
    repeat' apply And.intro
    all_goals try (first | with_reducible assumption | (with_reducible refine ck_nzI ?_; simp; done) | (with_reducible refine ck_nzL ?_; simp; done) | (with_reducible refine vp_in_nI ?_ ?_ <;> first | omega | decide) | (with_reducible refine Nat.le_of_ble_eq_true ?_; rfl) | omega | (unfold vp_in; decide))
    · intro zc923
      refine hB bL_law__930 _ _ _ _ _ _ _ kL_law__930 ?_
      dsimp only [bL_law__930, kx_wp, kx_step, kx_lI, kx_lL, kx_lA, kx_gl, kx_pI, kx_pL, kx_pR, kx_pA, kx_pV, kx_s1, kx_s2, kx_sl, kx_pre, kx_c2, kx_pl, kx_cmp, kx_oF, kx_eqN, kx_nil, kx_c1, kx_ft, kx_aI, kx_aL, kx_aR, kx_ln, Nat.reduceAdd, Option.toList, List.cons_append, List.nil_append]
      repeat (simp only [e1x, c1x, e2x, c2x, e3x, c3x, e4x, c4x, e5x, c5x, h33]; try dsimp only [kx_wp, kx_step, kx_lI, kx_lL, kx_lA, kx_gl, kx_pI, kx_pL, kx_pR, kx_pA, kx_pV, kx_s1, kx_s2, kx_sl, kx_pre, kx_c2, kx_pl, kx_cmp, kx_oF, kx_eqN, kx_nil, kx_c1, kx_ft, kx_aI, kx_aL, kx_aR, kx_ln, Nat.reduceAdd, Option.toList, List.cons_append, List.nil_append])
      repeat' apply And.intro
      all_goals try (first | with_reducible assumption | (with_reducible refine ck_nzI ?_; simp; done) | (with_reducible refine ck_nzL ?_; simp; done) | (with_reducible refine vp_in_nI ?_ ?_ <;> first | omega | decide) | (with_reducible refine Nat.le_of_ble_eq_true ?_; rfl) | omega | (unfold vp_in; decide))
      refine hN.1 167 _ _ _ _ _ _ _ 11 _ _ _ _ _ _ _ _ _ _ lL_167 hM ⟨by decide, rfl⟩ h93 rfl rfl (Nat.le_of_ble_eq_true rfl) (by omega) (by decide) (by omega) (by omega) dL_law__931 ?_
      rintro r3 P3 s3 ⟨e3, v, S2, go2, e4, hT, hk0, hI, h34, h143b, hgo0⟩
      obtain ⟨b9, e5⟩ := hT.2 (by decide)
      subst e5
      rw [e3, e4]
      have h34 := h34.trans h3
      have h93b := cI_93 hI
      have hth := cI_th l G hI
      rw [hk0] at hth
      dsimp only [Option.toList, List.cons_append, List.nil_append]
      refine hB bL_law__934 _ _ _ _ _ _ _ kL_law__934 ?_
      dsimp only [bL_law__934, kx_wp, kx_step, kx_lI, kx_lL, kx_lA, kx_gl, kx_pI, kx_pL, kx_pR, kx_pA, kx_pV, kx_s1, kx_s2, kx_sl, kx_pre, kx_c2, kx_pl, kx_cmp, kx_oF, kx_eqN, kx_nil, kx_c1, kx_ft, kx_aI, kx_aL, kx_aR, kx_ln, Nat.reduceAdd, Option.toList, List.cons_append, List.nil_append]
      repeat (simp only [e1x, c1x, e2x, c2x, e3x, c3x, e4x, c4x, e5x, c5x, h143b, hc0]; try dsimp only [kx_wp, kx_step, kx_lI, kx_lL, kx_lA, kx_gl, kx_pI, kx_pL, kx_pR, kx_pA, kx_pV, kx_s1, kx_s2, kx_sl, kx_pre, kx_c2, kx_pl, kx_cmp, kx_oF, kx_eqN, kx_nil, kx_c1, kx_ft, kx_aI, kx_aL, kx_aR, kx_ln, Nat.reduceAdd, Option.toList, List.cons_append, List.nil_append])
      repeat' apply And.intro
      all_goals try (first | with_reducible assumption | (with_reducible refine ck_nzI ?_; simp; done) | (with_reducible refine ck_nzL ?_; simp; done) | (with_reducible refine vp_in_nI ?_ ?_ <;> first | omega | decide) | (with_reducible refine Nat.le_of_ble_eq_true ?_; rfl) | omega | (unfold vp_in; decide))
      refine hN.1 120 _ _ _ _ _ _ _ 11 _ _ _ _ _ _ _ _ _ _ lL_120 hth.n ⟨by decide, rfl⟩ h93b rfl rfl (Nat.le_of_ble_eq_true rfl) (by omega) (by decide) (by omega) (by omega) dL_law__937 ?_
      rintro r4 P4 s4 ⟨e6, e7, e8⟩
      rw [e6, e7, e8]
      dsimp only [Option.toList, List.cons_append, List.nil_append]
      refine hB bL_law__940 _ _ _ _ _ _ _ kL_law__940 ?_
      dsimp only [bL_law__940, kx_wp, kx_step, kx_lI, kx_lL, kx_lA, kx_gl, kx_pI, kx_pL, kx_pR, kx_pA, kx_pV, kx_s1, kx_s2, kx_sl, kx_pre, kx_c2, kx_pl, kx_cmp, kx_oF, kx_eqN, kx_nil, kx_c1, kx_ft, kx_aI, kx_aL, kx_aR, kx_ln, Nat.reduceAdd, Option.toList, List.cons_append, List.nil_append]
      repeat (simp only [e1x, c1x, e2x, c2x, e3x, c3x, e4x, c4x, e5x, c5x, h143b, hc0]; try dsimp only [kx_wp, kx_step, kx_lI, kx_lL, kx_lA, kx_gl, kx_pI, kx_pL, kx_pR, kx_pA, kx_pV, kx_s1, kx_s2, kx_sl, kx_pre, kx_c2, kx_pl, kx_cmp, kx_oF, kx_eqN, kx_nil, kx_c1, kx_ft, kx_aI, kx_aL, kx_aR, kx_ln, Nat.reduceAdd, Option.toList, List.cons_append, List.nil_append])
      repeat' apply And.intro
      all_goals try (first | with_reducible assumption | (with_reducible refine ck_nzI ?_; simp; done) | (with_reducible refine ck_nzL ?_; simp; done) | (with_reducible refine vp_in_nI ?_ ?_ <;> first | omega | decide) | (with_reducible refine Nat.le_of_ble_eq_true ?_; rfl) | omega | (unfold vp_in; decide))
      · intro zc942
        refine hB bL_law__947 _ _ _ _ _ _ _ kL_law__947 ?_
        dsimp only [bL_law__947, kx_wp, kx_step, kx_lI, kx_lL, kx_lA, kx_gl, kx_pI, kx_pL, kx_pR, kx_pA, kx_pV, kx_s1, kx_s2, kx_sl, kx_pre, kx_c2, kx_pl, kx_cmp, kx_oF, kx_eqN, kx_nil, kx_c1, kx_ft, kx_aI, kx_aL, kx_aR, kx_ln, Nat.reduceAdd, Option.toList, List.cons_append, List.nil_append]
        repeat (simp only [e1x, c1x, e2x, c2x, e3x, c3x, e4x, c4x, e5x, c5x, h143b, hc0]; try dsimp only [kx_wp, kx_step, kx_lI, kx_lL, kx_lA, kx_gl, kx_pI, kx_pL, kx_pR, kx_pA, kx_pV, kx_s1, kx_s2, kx_sl, kx_pre, kx_c2, kx_pl, kx_cmp, kx_oF, kx_eqN, kx_nil, kx_c1, kx_ft, kx_aI, kx_aL, kx_aR, kx_ln, Nat.reduceAdd, Option.toList, List.cons_append, List.nil_append])
        repeat' apply And.intro
        all_goals try (first | with_reducible assumption | (with_reducible refine ck_nzI ?_; simp; done) | (with_reducible refine ck_nzL ?_; simp; done) | (with_reducible refine vp_in_nI ?_ ?_ <;> first | omega | decide) | (with_reducible refine Nat.le_of_ble_eq_true ?_; rfl) | omega | (unfold vp_in; decide))
        · intro zc949
          refine hB bL_law__964 _ _ _ _ _ _ _ kL_law__964 ?_
          dsimp only [bL_law__964, kx_wp, kx_step, kx_lI, kx_lL, kx_lA, kx_gl, kx_pI, kx_pL, kx_pR, kx_pA, kx_pV, kx_s1, kx_s2, kx_sl, kx_pre, kx_c2, kx_pl, kx_cmp, kx_oF, kx_eqN, kx_nil, kx_c1, kx_ft, kx_aI, kx_aL, kx_aR, kx_ln, Nat.reduceAdd, Option.toList, List.cons_append, List.nil_append]
          repeat (simp only [e1x, c1x, e2x, c2x, e3x, c3x, e4x, c4x, e5x, c5x, h143b, hc0]; try dsimp only [kx_wp, kx_step, kx_lI, kx_lL, kx_lA, kx_gl, kx_pI, kx_pL, kx_pR, kx_pA, kx_pV, kx_s1, kx_s2, kx_sl, kx_pre, kx_c2, kx_pl, kx_cmp, kx_oF, kx_eqN, kx_nil, kx_c1, kx_ft, kx_aI, kx_aL, kx_aR, kx_ln, Nat.reduceAdd, Option.toList, List.cons_append, List.nil_append])
          repeat' apply And.intro
          all_goals try (first | with_reducible assumption | (with_reducible refine ck_nzI ?_; simp; done) | (with_reducible refine ck_nzL ?_; simp; done) | (with_reducible refine vp_in_nI ?_ ?_ <;> first | omega | decide) | (with_reducible refine Nat.le_of_ble_eq_true ?_; rfl) | omega | (unfold vp_in; decide))
          exact hgo P3 s2 S2 cl1 mi1 se1 bl1 go2 _ _ _ _ _ hI h34 h143b (by omega) (by omega) (by omega)
        · intro zc949
          refine hB bL_law__952 _ _ _ _ _ _ _ kL_law__952 ?_
          dsimp only [bL_law__952, kx_wp, kx_step, kx_lI, kx_lL, kx_lA, kx_gl, kx_pI, kx_pL, kx_pR, kx_pA, kx_pV, kx_s1, kx_s2, kx_sl, kx_pre, kx_c2, kx_pl, kx_cmp, kx_oF, kx_eqN, kx_nil, kx_c1, kx_ft, kx_aI, kx_aL, kx_aR, kx_ln, Nat.reduceAdd, Option.toList, List.cons_append, List.nil_append]
          repeat (simp only [e1x, c1x, e2x, c2x, e3x, c3x, e4x, c4x, e5x, c5x, h143b, hc0]; try dsimp only [kx_wp, kx_step, kx_lI, kx_lL, kx_lA, kx_gl, kx_pI, kx_pL, kx_pR, kx_pA, kx_pV, kx_s1, kx_s2, kx_sl, kx_pre, kx_c2, kx_pl, kx_cmp, kx_oF, kx_eqN, kx_nil, kx_c1, kx_ft, kx_aI, kx_aL, kx_aR, kx_ln, Nat.reduceAdd, Option.toList, List.cons_append, List.nil_append])
          repeat' apply And.intro
          all_goals try (first | with_reducible assumption | (with_reducible refine ck_nzI ?_; simp; done) | (with_reducible refine ck_nzL ?_; simp; done) | (with_reducible refine vp_in_nI ?_ ?_ <;> first | omega | decide) | (with_reducible refine Nat.le_of_ble_eq_true ?_; rfl) | omega | (unfold vp_in; decide))
          · intro zc959
            refine hB bL_law__964 _ _ _ _ _ _ _ kL_law__964 ?_
            dsimp only [bL_law__964, kx_wp, kx_step, kx_lI, kx_lL, kx_lA, kx_gl, kx_pI, kx_pL, kx_pR, kx_pA, kx_pV, kx_s1, kx_s2, kx_sl, kx_pre, kx_c2, kx_pl, kx_cmp, kx_oF, kx_eqN, kx_nil, kx_c1, kx_ft, kx_aI, kx_aL, kx_aR, kx_ln, Nat.reduceAdd, Option.toList, List.cons_append, List.nil_append]
            repeat (simp only [e1x, c1x, e2x, c2x, e3x, c3x, e4x, c4x, e5x, c5x, h143b, hc0]; try dsimp only [kx_wp, kx_step, kx_lI, kx_lL, kx_lA, kx_gl, kx_pI, kx_pL, kx_pR, kx_pA, kx_pV, kx_s1, kx_s2, kx_sl, kx_pre, kx_c2, kx_pl, kx_cmp, kx_oF, kx_eqN, kx_nil, kx_c1, kx_ft, kx_aI, kx_aL, kx_aR, kx_ln, Nat.reduceAdd, Option.toList, List.cons_append, List.nil_append])
            repeat' apply And.intro
            all_goals try (first | with_reducible assumption | (with_reducible refine ck_nzI ?_; simp; done) | (with_reducible refine ck_nzL ?_; simp; done) | (with_reducible refine vp_in_nI ?_ ?_ <;> first | omega | decide) | (with_reducible refine Nat.le_of_ble_eq_true ?_; rfl) | omega | (unfold vp_in; decide))
            exact hgo P3 s2 S2 cl1 mi1 se1 bl1 go2 _ _ _ _ _ hI h34 h143b (by omega) (by omega) (by omega)
          · intro zc959
            first | exact absurd rfl zc959 | exact absurd zc959 (by decide) | exact absurd (by decide) zc959 | (exfalso; first | exact zc890 hb | exact zc923 hb | exact zc959 (by rw [hgo0 (Decidable.not_not.mp zc949)]; exact lg_cmp_s _)) | (exfalso; simp_all; done)
      · intro zc942
        first | exact absurd rfl zc942 | exact absurd zc942 (by decide) | exact absurd (by decide) zc942 | (exfalso; first | exact zc890 hb | exact zc923 hb | exact zc959 (by rw [hgo0 (Decidable.not_not.mp zc949)]; exact lg_cmp_s _)) | (exfalso; simp_all; done)
    · intro zc923
      first | exact absurd rfl zc923 | exact absurd zc923 (by decide) | exact absurd (by decide) zc923 | (exfalso; first | exact zc890 hb | exact zc923 hb | exact zc959 (by rw [hgo0 (Decidable.not_not.mp zc949)]; exact lg_cmp_s _)) | (exfalso; simp_all; done)
  · intro zc890
    first | exact absurd rfl zc890 | exact absurd zc890 (by decide) | exact absurd (by decide) zc890 | (exfalso; first | exact zc890 hb | exact zc923 hb | exact zc959 (by rw [hgo0 (Decidable.not_not.mp zc949)]; exact lg_cmp_s _)) | (exfalso; simp_all; done)

set_option maxRecDepth 100000 in
set_option maxHeartbeats 4000000 in
theorem cj_hands_1 (l : Launch) (G : kx_G) (hst : l.stackTraces = false) {P : kx_P} {sz : Nat} {M : Nat → Int32} {A : Nat → Nat → Int32} {L : Nat → Nat → Int64} {cl mi se : Nat} {bl : Nat → Nat} {go : Nat → Int64} {Ln i k n : Nat} {xs : Nat → Int32} {o5 o6 o7 : Option Value} {g : kx_F} (h : cI P sz (M, A, L) cl mi se bl) (h3 : P 3 = kI 5 Ln xs) (h143 : P 143 = kL 1 go) (hi : i + 6 ≤ Ln) (hL : Ln ≤ 3072) (hk : k + 8 ≤ 601024) (hn : n + cro bl + 2206 ≤ 7293033) (hse : se ≤ 999) (hb : ¬ xs (i + 3) = 0) (hB : kx_rB kxL_L false cL_law_ 601024 7293033 (fun r _ _ => r = some (.int 1)) g) (hN : kx_rN l G RL cL_law_ 60 601024 7293033 g) (hW : kx_rW l G RL cL_law_ 60 601024 7293033 g) (hgo : cAf g Ln xs i se k n bl) : g 871 [some (.ref 3), some (.ref 64), some (.ref 93), some (.ref 143), some (.int (nI i)), o5, o6, o7] [] P sz k n := by
  have e1x : nI i + 1 = nI (i + 1) := by rw [show (1 : Int32) = nI 1 from rfl, nI_add]
  have c1x : (nI (i + 1)).toNatClampNeg = i + 1 := nI_clamp (by omega)
  have e2x : nI i + 2 = nI (i + 2) := by rw [show (2 : Int32) = nI 2 from rfl, nI_add]
  have c2x : (nI (i + 2)).toNatClampNeg = i + 2 := nI_clamp (by omega)
  have e3x : nI i + 3 = nI (i + 3) := by rw [show (3 : Int32) = nI 3 from rfl, nI_add]
  have c3x : (nI (i + 3)).toNatClampNeg = i + 3 := nI_clamp (by omega)
  have e4x : nI i + 4 = nI (i + 4) := by rw [show (4 : Int32) = nI 4 from rfl, nI_add]
  have c4x : (nI (i + 4)).toNatClampNeg = i + 4 := nI_clamp (by omega)
  have e5x : nI i + 5 = nI (i + 5) := by rw [show (5 : Int32) = nI 5 from rfl, nI_add]
  have c5x : (nI (i + 5)).toNatClampNeg = i + 5 := nI_clamp (by omega)
  have hc0 : (0 : Int32).toNatClampNeg = 0 := rfl
  obtain ⟨f64, h64⟩ := cI_k64 h
  have hs := cs_hands l G hst h (xs (i + 1)) (xs (i + 2)) 1
  obtain ⟨k9, dw, dm, mc, ms, cl1, mi1, se1, bl1, Q, q1, q2, q3, q4, q5, hw, hmo⟩ := cSs.s (yw := sL_hands) (hh := hL_hands) (Aw := [.ref 64, .int (xs (i + 1)), .int (xs (i + 2)), .int 1, .ref 143]) h h143 hs (fun d mc ms Po => cw_hands_t l G h64) (fun p hp => by
    simp only [List.mem_cons, List.not_mem_nil, or_false] at hp
    rcases hp with rfl | rfl
    · exact ⟨by decide, fun d => cw_hands_x0 l G h64⟩
    · exact ⟨by decide, fun d => cw_hands_x1 l G h64⟩)
  refine hB bL_law__871 _ _ _ _ _ _ _ kL_law__871 ?_
  dsimp only [bL_law__871, kx_wp, kx_step, kx_lI, kx_lL, kx_lA, kx_gl, kx_pI, kx_pL, kx_pR, kx_pA, kx_pV, kx_s1, kx_s2, kx_sl, kx_pre, kx_c2, kx_pl, kx_cmp, kx_oF, kx_eqN, kx_nil, kx_c1, kx_ft, kx_aI, kx_aL, kx_aR, kx_ln, Nat.reduceAdd, Option.toList, List.cons_append, List.nil_append]
  repeat (simp only [e1x, c1x, e2x, c2x, e3x, c3x, e4x, c4x, e5x, c5x, h3]; try dsimp only [kx_wp, kx_step, kx_lI, kx_lL, kx_lA, kx_gl, kx_pI, kx_pL, kx_pR, kx_pA, kx_pV, kx_s1, kx_s2, kx_sl, kx_pre, kx_c2, kx_pl, kx_cmp, kx_oF, kx_eqN, kx_nil, kx_c1, kx_ft, kx_aI, kx_aL, kx_aR, kx_ln, Nat.reduceAdd, Option.toList, List.cons_append, List.nil_append])
  repeat' apply And.intro
  all_goals try (first | with_reducible assumption | (with_reducible refine ck_nzI ?_; simp; done) | (with_reducible refine ck_nzL ?_; simp; done) | (with_reducible refine vp_in_nI ?_ ?_ <;> first | omega | decide) | (with_reducible refine Nat.le_of_ble_eq_true ?_; rfl) | omega | (unfold vp_in; decide))
  · intro zc890
    first | exact absurd rfl zc890 | exact absurd zc890 (by decide) | exact absurd (by decide) zc890 | (exfalso; first | exact hb zc890 | exact hb zc923 | exact zc959 (by rw [hgo0 (Decidable.not_not.mp zc949)]; exact lg_cmp_s _)) | (exfalso; simp_all; done)
  · intro zc890
    refine hB bL_law__893 _ _ _ _ _ _ _ kL_law__893 ?_
    dsimp only [bL_law__893, kx_wp, kx_step, kx_lI, kx_lL, kx_lA, kx_gl, kx_pI, kx_pL, kx_pR, kx_pA, kx_pV, kx_s1, kx_s2, kx_sl, kx_pre, kx_c2, kx_pl, kx_cmp, kx_oF, kx_eqN, kx_nil, kx_c1, kx_ft, kx_aI, kx_aL, kx_aR, kx_ln, Nat.reduceAdd, Option.toList, List.cons_append, List.nil_append]
    repeat (simp only [e1x, c1x, e2x, c2x, e3x, c3x, e4x, c4x, e5x, c5x, h3]; try dsimp only [kx_wp, kx_step, kx_lI, kx_lL, kx_lA, kx_gl, kx_pI, kx_pL, kx_pR, kx_pA, kx_pV, kx_s1, kx_s2, kx_sl, kx_pre, kx_c2, kx_pl, kx_cmp, kx_oF, kx_eqN, kx_nil, kx_c1, kx_ft, kx_aI, kx_aL, kx_aR, kx_ln, Nat.reduceAdd, Option.toList, List.cons_append, List.nil_append])
    repeat' apply And.intro
    all_goals try (first | with_reducible assumption | (with_reducible refine ck_nzI ?_; simp; done) | (with_reducible refine ck_nzL ?_; simp; done) | (with_reducible refine vp_in_nI ?_ ?_ <;> first | omega | decide) | (with_reducible refine Nat.le_of_ble_eq_true ?_; rfl) | omega | (unfold vp_in; decide))
    refine hB bL_law__898 _ _ _ _ _ _ _ kL_law__898 ?_
    dsimp only [bL_law__898, kx_wp, kx_step, kx_lI, kx_lL, kx_lA, kx_gl, kx_pI, kx_pL, kx_pR, kx_pA, kx_pV, kx_s1, kx_s2, kx_sl, kx_pre, kx_c2, kx_pl, kx_cmp, kx_oF, kx_eqN, kx_nil, kx_c1, kx_ft, kx_aI, kx_aL, kx_aR, kx_ln, Nat.reduceAdd, Option.toList, List.cons_append, List.nil_append]
    repeat (simp only [e1x, c1x, e2x, c2x, e3x, c3x, e4x, c4x, e5x, c5x, h3]; try dsimp only [kx_wp, kx_step, kx_lI, kx_lL, kx_lA, kx_gl, kx_pI, kx_pL, kx_pR, kx_pA, kx_pV, kx_s1, kx_s2, kx_sl, kx_pre, kx_c2, kx_pl, kx_cmp, kx_oF, kx_eqN, kx_nil, kx_c1, kx_ft, kx_aI, kx_aL, kx_aR, kx_ln, Nat.reduceAdd, Option.toList, List.cons_append, List.nil_append])
    repeat' apply And.intro
    all_goals try (first | with_reducible assumption | (with_reducible refine ck_nzI ?_; simp; done) | (with_reducible refine ck_nzL ?_; simp; done) | (with_reducible refine vp_in_nI ?_ ?_ <;> first | omega | decide) | (with_reducible refine Nat.le_of_ble_eq_true ?_; rfl) | omega | (unfold vp_in; decide))
    refine hW 164 _ _ _ _ _ _ _ _ _ _ _ _ _ _ _ _ lL_164 hw rfl rfl (Nat.le_of_ble_eq_true rfl) (by omega) (by decide) (by omega) (by omega) dL_law__899 ?_
    rintro r2 P2 s2 ⟨e2, hQ⟩
    rw [e2]
    obtain ⟨⟨fm, h93⟩, h33, hM⟩ := hmo P2 s2 hQ
    have h33 := h33.trans h3
    dsimp only [Option.toList, List.cons_append, List.nil_append]
    refine hB bL_law__902 _ _ _ _ _ _ _ kL_law__902 ?_
    dsimp only [bL_law__902, kx_wp, kx_step, kx_lI, kx_lL, kx_lA, kx_gl, kx_pI, kx_pL, kx_pR, kx_pA, kx_pV, kx_s1, kx_s2, kx_sl, kx_pre, kx_c2, kx_pl, kx_cmp, kx_oF, kx_eqN, kx_nil, kx_c1, kx_ft, kx_aI, kx_aL, kx_aR, kx_ln, Nat.reduceAdd, Option.toList, List.cons_append, List.nil_append]
    repeat (simp only [e1x, c1x, e2x, c2x, e3x, c3x, e4x, c4x, e5x, c5x, h33]; try dsimp only [kx_wp, kx_step, kx_lI, kx_lL, kx_lA, kx_gl, kx_pI, kx_pL, kx_pR, kx_pA, kx_pV, kx_s1, kx_s2, kx_sl, kx_pre, kx_c2, kx_pl, kx_cmp, kx_oF, kx_eqN, kx_nil, kx_c1, kx_ft, kx_aI, kx_aL, kx_aR, kx_ln, Nat.reduceAdd, Option.toList, List.cons_append, List.nil_append])
    repeat' apply And.intro
    all_goals try (first | with_reducible assumption | (with_reducible refine ck_nzI ?_; simp; done) | (with_reducible refine ck_nzL ?_; simp; done) | (with_reducible refine vp_in_nI ?_ ?_ <;> first | omega | decide) | (with_reducible refine Nat.le_of_ble_eq_true ?_; rfl) | omega | (unfold vp_in; decide))
    · intro zc923
      first | exact absurd rfl zc923 | exact absurd zc923 (by decide) | exact absurd (by decide) zc923 | (exfalso; first | exact hb zc890 | exact hb zc923 | exact zc959 (by rw [hgo0 (Decidable.not_not.mp zc949)]; exact lg_cmp_s _)) | (exfalso; simp_all; done)
    · intro zc923
      refine hB bL_law__926 _ _ _ _ _ _ _ kL_law__926 ?_
      dsimp only [bL_law__926, kx_wp, kx_step, kx_lI, kx_lL, kx_lA, kx_gl, kx_pI, kx_pL, kx_pR, kx_pA, kx_pV, kx_s1, kx_s2, kx_sl, kx_pre, kx_c2, kx_pl, kx_cmp, kx_oF, kx_eqN, kx_nil, kx_c1, kx_ft, kx_aI, kx_aL, kx_aR, kx_ln, Nat.reduceAdd, Option.toList, List.cons_append, List.nil_append]
      repeat (simp only [e1x, c1x, e2x, c2x, e3x, c3x, e4x, c4x, e5x, c5x, h33]; try dsimp only [kx_wp, kx_step, kx_lI, kx_lL, kx_lA, kx_gl, kx_pI, kx_pL, kx_pR, kx_pA, kx_pV, kx_s1, kx_s2, kx_sl, kx_pre, kx_c2, kx_pl, kx_cmp, kx_oF, kx_eqN, kx_nil, kx_c1, kx_ft, kx_aI, kx_aL, kx_aR, kx_ln, Nat.reduceAdd, Option.toList, List.cons_append, List.nil_append])
      repeat' apply And.intro
      all_goals try (first | with_reducible assumption | (with_reducible refine ck_nzI ?_; simp; done) | (with_reducible refine ck_nzL ?_; simp; done) | (with_reducible refine vp_in_nI ?_ ?_ <;> first | omega | decide) | (with_reducible refine Nat.le_of_ble_eq_true ?_; rfl) | omega | (unfold vp_in; decide))
      refine hN.1 167 _ _ _ _ _ _ _ 11 _ _ _ _ _ _ _ _ _ _ lL_167 hM ⟨by decide, rfl⟩ h93 rfl rfl (Nat.le_of_ble_eq_true rfl) (by omega) (by decide) (by omega) (by omega) dL_law__931 ?_
      rintro r3 P3 s3 ⟨e3, v, S2, go2, e4, hT, hk0, hI, h34, h143b, hgo0⟩
      obtain ⟨b9, e5⟩ := hT.2 (by decide)
      subst e5
      rw [e3, e4]
      have h34 := h34.trans h3
      have h93b := cI_93 hI
      have hth := cI_th l G hI
      rw [hk0] at hth
      dsimp only [Option.toList, List.cons_append, List.nil_append]
      refine hB bL_law__934 _ _ _ _ _ _ _ kL_law__934 ?_
      dsimp only [bL_law__934, kx_wp, kx_step, kx_lI, kx_lL, kx_lA, kx_gl, kx_pI, kx_pL, kx_pR, kx_pA, kx_pV, kx_s1, kx_s2, kx_sl, kx_pre, kx_c2, kx_pl, kx_cmp, kx_oF, kx_eqN, kx_nil, kx_c1, kx_ft, kx_aI, kx_aL, kx_aR, kx_ln, Nat.reduceAdd, Option.toList, List.cons_append, List.nil_append]
      repeat (simp only [e1x, c1x, e2x, c2x, e3x, c3x, e4x, c4x, e5x, c5x, h143b, hc0]; try dsimp only [kx_wp, kx_step, kx_lI, kx_lL, kx_lA, kx_gl, kx_pI, kx_pL, kx_pR, kx_pA, kx_pV, kx_s1, kx_s2, kx_sl, kx_pre, kx_c2, kx_pl, kx_cmp, kx_oF, kx_eqN, kx_nil, kx_c1, kx_ft, kx_aI, kx_aL, kx_aR, kx_ln, Nat.reduceAdd, Option.toList, List.cons_append, List.nil_append])
      repeat' apply And.intro
      all_goals try (first | with_reducible assumption | (with_reducible refine ck_nzI ?_; simp; done) | (with_reducible refine ck_nzL ?_; simp; done) | (with_reducible refine vp_in_nI ?_ ?_ <;> first | omega | decide) | (with_reducible refine Nat.le_of_ble_eq_true ?_; rfl) | omega | (unfold vp_in; decide))
      refine hN.1 120 _ _ _ _ _ _ _ 11 _ _ _ _ _ _ _ _ _ _ lL_120 hth.n ⟨by decide, rfl⟩ h93b rfl rfl (Nat.le_of_ble_eq_true rfl) (by omega) (by decide) (by omega) (by omega) dL_law__937 ?_
      rintro r4 P4 s4 ⟨e6, e7, e8⟩
      rw [e6, e7, e8]
      dsimp only [Option.toList, List.cons_append, List.nil_append]
      refine hB bL_law__940 _ _ _ _ _ _ _ kL_law__940 ?_
      dsimp only [bL_law__940, kx_wp, kx_step, kx_lI, kx_lL, kx_lA, kx_gl, kx_pI, kx_pL, kx_pR, kx_pA, kx_pV, kx_s1, kx_s2, kx_sl, kx_pre, kx_c2, kx_pl, kx_cmp, kx_oF, kx_eqN, kx_nil, kx_c1, kx_ft, kx_aI, kx_aL, kx_aR, kx_ln, Nat.reduceAdd, Option.toList, List.cons_append, List.nil_append]
      repeat (simp only [e1x, c1x, e2x, c2x, e3x, c3x, e4x, c4x, e5x, c5x, h143b, hc0]; try dsimp only [kx_wp, kx_step, kx_lI, kx_lL, kx_lA, kx_gl, kx_pI, kx_pL, kx_pR, kx_pA, kx_pV, kx_s1, kx_s2, kx_sl, kx_pre, kx_c2, kx_pl, kx_cmp, kx_oF, kx_eqN, kx_nil, kx_c1, kx_ft, kx_aI, kx_aL, kx_aR, kx_ln, Nat.reduceAdd, Option.toList, List.cons_append, List.nil_append])
      repeat' apply And.intro
      all_goals try (first | with_reducible assumption | (with_reducible refine ck_nzI ?_; simp; done) | (with_reducible refine ck_nzL ?_; simp; done) | (with_reducible refine vp_in_nI ?_ ?_ <;> first | omega | decide) | (with_reducible refine Nat.le_of_ble_eq_true ?_; rfl) | omega | (unfold vp_in; decide))
      · intro zc942
        refine hB bL_law__947 _ _ _ _ _ _ _ kL_law__947 ?_
        dsimp only [bL_law__947, kx_wp, kx_step, kx_lI, kx_lL, kx_lA, kx_gl, kx_pI, kx_pL, kx_pR, kx_pA, kx_pV, kx_s1, kx_s2, kx_sl, kx_pre, kx_c2, kx_pl, kx_cmp, kx_oF, kx_eqN, kx_nil, kx_c1, kx_ft, kx_aI, kx_aL, kx_aR, kx_ln, Nat.reduceAdd, Option.toList, List.cons_append, List.nil_append]
        repeat (simp only [e1x, c1x, e2x, c2x, e3x, c3x, e4x, c4x, e5x, c5x, h143b, hc0]; try dsimp only [kx_wp, kx_step, kx_lI, kx_lL, kx_lA, kx_gl, kx_pI, kx_pL, kx_pR, kx_pA, kx_pV, kx_s1, kx_s2, kx_sl, kx_pre, kx_c2, kx_pl, kx_cmp, kx_oF, kx_eqN, kx_nil, kx_c1, kx_ft, kx_aI, kx_aL, kx_aR, kx_ln, Nat.reduceAdd, Option.toList, List.cons_append, List.nil_append])
        repeat' apply And.intro
        all_goals try (first | with_reducible assumption | (with_reducible refine ck_nzI ?_; simp; done) | (with_reducible refine ck_nzL ?_; simp; done) | (with_reducible refine vp_in_nI ?_ ?_ <;> first | omega | decide) | (with_reducible refine Nat.le_of_ble_eq_true ?_; rfl) | omega | (unfold vp_in; decide))
        · intro zc949
          refine hB bL_law__964 _ _ _ _ _ _ _ kL_law__964 ?_
          dsimp only [bL_law__964, kx_wp, kx_step, kx_lI, kx_lL, kx_lA, kx_gl, kx_pI, kx_pL, kx_pR, kx_pA, kx_pV, kx_s1, kx_s2, kx_sl, kx_pre, kx_c2, kx_pl, kx_cmp, kx_oF, kx_eqN, kx_nil, kx_c1, kx_ft, kx_aI, kx_aL, kx_aR, kx_ln, Nat.reduceAdd, Option.toList, List.cons_append, List.nil_append]
          repeat (simp only [e1x, c1x, e2x, c2x, e3x, c3x, e4x, c4x, e5x, c5x, h143b, hc0]; try dsimp only [kx_wp, kx_step, kx_lI, kx_lL, kx_lA, kx_gl, kx_pI, kx_pL, kx_pR, kx_pA, kx_pV, kx_s1, kx_s2, kx_sl, kx_pre, kx_c2, kx_pl, kx_cmp, kx_oF, kx_eqN, kx_nil, kx_c1, kx_ft, kx_aI, kx_aL, kx_aR, kx_ln, Nat.reduceAdd, Option.toList, List.cons_append, List.nil_append])
          repeat' apply And.intro
          all_goals try (first | with_reducible assumption | (with_reducible refine ck_nzI ?_; simp; done) | (with_reducible refine ck_nzL ?_; simp; done) | (with_reducible refine vp_in_nI ?_ ?_ <;> first | omega | decide) | (with_reducible refine Nat.le_of_ble_eq_true ?_; rfl) | omega | (unfold vp_in; decide))
          exact hgo P3 s2 S2 cl1 mi1 se1 bl1 go2 _ _ _ _ _ hI h34 h143b (by omega) (by omega) (by omega)
        · intro zc949
          refine hB bL_law__952 _ _ _ _ _ _ _ kL_law__952 ?_
          dsimp only [bL_law__952, kx_wp, kx_step, kx_lI, kx_lL, kx_lA, kx_gl, kx_pI, kx_pL, kx_pR, kx_pA, kx_pV, kx_s1, kx_s2, kx_sl, kx_pre, kx_c2, kx_pl, kx_cmp, kx_oF, kx_eqN, kx_nil, kx_c1, kx_ft, kx_aI, kx_aL, kx_aR, kx_ln, Nat.reduceAdd, Option.toList, List.cons_append, List.nil_append]
          repeat (simp only [e1x, c1x, e2x, c2x, e3x, c3x, e4x, c4x, e5x, c5x, h143b, hc0]; try dsimp only [kx_wp, kx_step, kx_lI, kx_lL, kx_lA, kx_gl, kx_pI, kx_pL, kx_pR, kx_pA, kx_pV, kx_s1, kx_s2, kx_sl, kx_pre, kx_c2, kx_pl, kx_cmp, kx_oF, kx_eqN, kx_nil, kx_c1, kx_ft, kx_aI, kx_aL, kx_aR, kx_ln, Nat.reduceAdd, Option.toList, List.cons_append, List.nil_append])
          repeat' apply And.intro
          all_goals try (first | with_reducible assumption | (with_reducible refine ck_nzI ?_; simp; done) | (with_reducible refine ck_nzL ?_; simp; done) | (with_reducible refine vp_in_nI ?_ ?_ <;> first | omega | decide) | (with_reducible refine Nat.le_of_ble_eq_true ?_; rfl) | omega | (unfold vp_in; decide))
          · intro zc959
            refine hB bL_law__964 _ _ _ _ _ _ _ kL_law__964 ?_
            dsimp only [bL_law__964, kx_wp, kx_step, kx_lI, kx_lL, kx_lA, kx_gl, kx_pI, kx_pL, kx_pR, kx_pA, kx_pV, kx_s1, kx_s2, kx_sl, kx_pre, kx_c2, kx_pl, kx_cmp, kx_oF, kx_eqN, kx_nil, kx_c1, kx_ft, kx_aI, kx_aL, kx_aR, kx_ln, Nat.reduceAdd, Option.toList, List.cons_append, List.nil_append]
            repeat (simp only [e1x, c1x, e2x, c2x, e3x, c3x, e4x, c4x, e5x, c5x, h143b, hc0]; try dsimp only [kx_wp, kx_step, kx_lI, kx_lL, kx_lA, kx_gl, kx_pI, kx_pL, kx_pR, kx_pA, kx_pV, kx_s1, kx_s2, kx_sl, kx_pre, kx_c2, kx_pl, kx_cmp, kx_oF, kx_eqN, kx_nil, kx_c1, kx_ft, kx_aI, kx_aL, kx_aR, kx_ln, Nat.reduceAdd, Option.toList, List.cons_append, List.nil_append])
            repeat' apply And.intro
            all_goals try (first | with_reducible assumption | (with_reducible refine ck_nzI ?_; simp; done) | (with_reducible refine ck_nzL ?_; simp; done) | (with_reducible refine vp_in_nI ?_ ?_ <;> first | omega | decide) | (with_reducible refine Nat.le_of_ble_eq_true ?_; rfl) | omega | (unfold vp_in; decide))
            exact hgo P3 s2 S2 cl1 mi1 se1 bl1 go2 _ _ _ _ _ hI h34 h143b (by omega) (by omega) (by omega)
          · intro zc959
            first | exact absurd rfl zc959 | exact absurd zc959 (by decide) | exact absurd (by decide) zc959 | (exfalso; first | exact hb zc890 | exact hb zc923 | exact zc959 (by rw [hgo0 (Decidable.not_not.mp zc949)]; exact lg_cmp_s _)) | (exfalso; simp_all; done)
      · intro zc942
        first | exact absurd rfl zc942 | exact absurd zc942 (by decide) | exact absurd (by decide) zc942 | (exfalso; first | exact hb zc890 | exact hb zc923 | exact zc959 (by rw [hgo0 (Decidable.not_not.mp zc949)]; exact lg_cmp_s _)) | (exfalso; simp_all; done)

set_option maxRecDepth 100000 in
set_option maxHeartbeats 4000000 in
theorem cj_date (l : Launch) (G : kx_G) (hst : l.stackTraces = false) {P : kx_P} {sz : Nat} {M : Nat → Int32} {A : Nat → Nat → Int32} {L : Nat → Nat → Int64} {cl mi se : Nat} {bl : Nat → Nat} {go : Nat → Int64} {Ln i k n : Nat} {xs : Nat → Int32} {o5 o6 o7 : Option Value} {g : kx_F} (h : cI P sz (M, A, L) cl mi se bl) (h3 : P 3 = kI 5 Ln xs) (h143 : P 143 = kL 1 go) (hi : i + 6 ≤ Ln) (hL : Ln ≤ 3072) (hk : k + 8 ≤ 601024) (hn : n + cro bl + 2206 ≤ 7293033) (hse : se ≤ 999) (hB : kx_rB kxL_L false cL_law_ 601024 7293033 (fun r _ _ => r = some (.int 1)) g) (hN : kx_rN l G RL cL_law_ 60 601024 7293033 g) (hW : kx_rW l G RL cL_law_ 60 601024 7293033 g) (hgo : cAf g Ln xs i se k n bl) : g 967 [some (.ref 3), some (.ref 64), some (.ref 93), some (.ref 143), some (.int (nI i)), o5, o6, o7] [] P sz k n := by
  have e1x : nI i + 1 = nI (i + 1) := by rw [show (1 : Int32) = nI 1 from rfl, nI_add]
  have c1x : (nI (i + 1)).toNatClampNeg = i + 1 := nI_clamp (by omega)
  have e2x : nI i + 2 = nI (i + 2) := by rw [show (2 : Int32) = nI 2 from rfl, nI_add]
  have c2x : (nI (i + 2)).toNatClampNeg = i + 2 := nI_clamp (by omega)
  have e3x : nI i + 3 = nI (i + 3) := by rw [show (3 : Int32) = nI 3 from rfl, nI_add]
  have c3x : (nI (i + 3)).toNatClampNeg = i + 3 := nI_clamp (by omega)
  have e4x : nI i + 4 = nI (i + 4) := by rw [show (4 : Int32) = nI 4 from rfl, nI_add]
  have c4x : (nI (i + 4)).toNatClampNeg = i + 4 := nI_clamp (by omega)
  have e5x : nI i + 5 = nI (i + 5) := by rw [show (5 : Int32) = nI 5 from rfl, nI_add]
  have c5x : (nI (i + 5)).toNatClampNeg = i + 5 := nI_clamp (by omega)
  have hc0 : (0 : Int32).toNatClampNeg = 0 := rfl
  obtain ⟨f64, h64⟩ := cI_k64 h
  have hs := cs_date l G hst h (xs (i + 1))
  obtain ⟨k9, dw, dm, mc, ms, cl1, mi1, se1, bl1, Q, q1, q2, q3, q4, q5, hw, hmo⟩ := cSs.s (yw := sL_date) (hh := hL_date) (Aw := [.ref 64, .int (xs (i + 1)), .ref 143]) h h143 hs (fun d mc ms Po => cw_date_t l G h64) (fun p hp => by
    simp only [List.mem_cons, List.not_mem_nil, or_false] at hp
    rcases hp with rfl
    · exact ⟨by decide, fun d => cw_date_x0 l G h64⟩)
  refine hB bL_law__967 _ _ _ _ _ _ _ kL_law__967 ?_
  dsimp only [bL_law__967, kx_wp, kx_step, kx_lI, kx_lL, kx_lA, kx_gl, kx_pI, kx_pL, kx_pR, kx_pA, kx_pV, kx_s1, kx_s2, kx_sl, kx_pre, kx_c2, kx_pl, kx_cmp, kx_oF, kx_eqN, kx_nil, kx_c1, kx_ft, kx_aI, kx_aL, kx_aR, kx_ln, Nat.reduceAdd, Option.toList, List.cons_append, List.nil_append]
  repeat (simp only [e1x, c1x, e2x, c2x, e3x, c3x, e4x, c4x, e5x, c5x, h3]; try dsimp only [kx_wp, kx_step, kx_lI, kx_lL, kx_lA, kx_gl, kx_pI, kx_pL, kx_pR, kx_pA, kx_pV, kx_s1, kx_s2, kx_sl, kx_pre, kx_c2, kx_pl, kx_cmp, kx_oF, kx_eqN, kx_nil, kx_c1, kx_ft, kx_aI, kx_aL, kx_aR, kx_ln, Nat.reduceAdd, Option.toList, List.cons_append, List.nil_append])
  repeat' apply And.intro
  all_goals try (first | with_reducible assumption | (with_reducible refine ck_nzI ?_; simp; done) | (with_reducible refine ck_nzL ?_; simp; done) | (with_reducible refine vp_in_nI ?_ ?_ <;> first | omega | decide) | (with_reducible refine Nat.le_of_ble_eq_true ?_; rfl) | omega | (unfold vp_in; decide))
  refine hW 168 _ _ _ _ _ _ _ _ _ _ _ _ _ _ _ _ lL_168 hw rfl rfl (Nat.le_of_ble_eq_true rfl) (by omega) (by decide) (by omega) (by omega) dL_law__975 ?_
  rintro r2 P2 s2 ⟨e2, hQ⟩
  rw [e2]
  obtain ⟨⟨fm, h93⟩, h33, hM⟩ := hmo P2 s2 hQ
  have h33 := h33.trans h3
  dsimp only [Option.toList, List.cons_append, List.nil_append]
  refine hB bL_law__978 _ _ _ _ _ _ _ kL_law__978 ?_
  dsimp only [bL_law__978, kx_wp, kx_step, kx_lI, kx_lL, kx_lA, kx_gl, kx_pI, kx_pL, kx_pR, kx_pA, kx_pV, kx_s1, kx_s2, kx_sl, kx_pre, kx_c2, kx_pl, kx_cmp, kx_oF, kx_eqN, kx_nil, kx_c1, kx_ft, kx_aI, kx_aL, kx_aR, kx_ln, Nat.reduceAdd, Option.toList, List.cons_append, List.nil_append]
  repeat (simp only [e1x, c1x, e2x, c2x, e3x, c3x, e4x, c4x, e5x, c5x, h33]; try dsimp only [kx_wp, kx_step, kx_lI, kx_lL, kx_lA, kx_gl, kx_pI, kx_pL, kx_pR, kx_pA, kx_pV, kx_s1, kx_s2, kx_sl, kx_pre, kx_c2, kx_pl, kx_cmp, kx_oF, kx_eqN, kx_nil, kx_c1, kx_ft, kx_aI, kx_aL, kx_aR, kx_ln, Nat.reduceAdd, Option.toList, List.cons_append, List.nil_append])
  repeat' apply And.intro
  all_goals try (first | with_reducible assumption | (with_reducible refine ck_nzI ?_; simp; done) | (with_reducible refine ck_nzL ?_; simp; done) | (with_reducible refine vp_in_nI ?_ ?_ <;> first | omega | decide) | (with_reducible refine Nat.le_of_ble_eq_true ?_; rfl) | omega | (unfold vp_in; decide))
  refine hN.1 170 _ _ _ _ _ _ _ 11 _ _ _ _ _ _ _ _ _ _ lL_170 hM ⟨by decide, rfl⟩ h93 rfl rfl (Nat.le_of_ble_eq_true rfl) (by omega) (by decide) (by omega) (by omega) dL_law__987 ?_
  rintro r3 P3 s3 ⟨e3, v, S2, go2, e4, hT, hk0, hI, h34, h143b, hgo0⟩
  obtain ⟨b9, e5⟩ := hT.2 (by decide)
  subst e5
  rw [e3, e4]
  have h34 := h34.trans h3
  have h93b := cI_93 hI
  have hth := cI_th l G hI
  rw [hk0] at hth
  dsimp only [Option.toList, List.cons_append, List.nil_append]
  refine hB bL_law__990 _ _ _ _ _ _ _ kL_law__990 ?_
  dsimp only [bL_law__990, kx_wp, kx_step, kx_lI, kx_lL, kx_lA, kx_gl, kx_pI, kx_pL, kx_pR, kx_pA, kx_pV, kx_s1, kx_s2, kx_sl, kx_pre, kx_c2, kx_pl, kx_cmp, kx_oF, kx_eqN, kx_nil, kx_c1, kx_ft, kx_aI, kx_aL, kx_aR, kx_ln, Nat.reduceAdd, Option.toList, List.cons_append, List.nil_append]
  repeat (simp only [e1x, c1x, e2x, c2x, e3x, c3x, e4x, c4x, e5x, c5x, h143b, hc0]; try dsimp only [kx_wp, kx_step, kx_lI, kx_lL, kx_lA, kx_gl, kx_pI, kx_pL, kx_pR, kx_pA, kx_pV, kx_s1, kx_s2, kx_sl, kx_pre, kx_c2, kx_pl, kx_cmp, kx_oF, kx_eqN, kx_nil, kx_c1, kx_ft, kx_aI, kx_aL, kx_aR, kx_ln, Nat.reduceAdd, Option.toList, List.cons_append, List.nil_append])
  repeat' apply And.intro
  all_goals try (first | with_reducible assumption | (with_reducible refine ck_nzI ?_; simp; done) | (with_reducible refine ck_nzL ?_; simp; done) | (with_reducible refine vp_in_nI ?_ ?_ <;> first | omega | decide) | (with_reducible refine Nat.le_of_ble_eq_true ?_; rfl) | omega | (unfold vp_in; decide))
  refine hN.1 120 _ _ _ _ _ _ _ 11 _ _ _ _ _ _ _ _ _ _ lL_120 hth.n ⟨by decide, rfl⟩ h93b rfl rfl (Nat.le_of_ble_eq_true rfl) (by omega) (by decide) (by omega) (by omega) dL_law__993 ?_
  rintro r4 P4 s4 ⟨e6, e7, e8⟩
  rw [e6, e7, e8]
  dsimp only [Option.toList, List.cons_append, List.nil_append]
  refine hB bL_law__996 _ _ _ _ _ _ _ kL_law__996 ?_
  dsimp only [bL_law__996, kx_wp, kx_step, kx_lI, kx_lL, kx_lA, kx_gl, kx_pI, kx_pL, kx_pR, kx_pA, kx_pV, kx_s1, kx_s2, kx_sl, kx_pre, kx_c2, kx_pl, kx_cmp, kx_oF, kx_eqN, kx_nil, kx_c1, kx_ft, kx_aI, kx_aL, kx_aR, kx_ln, Nat.reduceAdd, Option.toList, List.cons_append, List.nil_append]
  repeat (simp only [e1x, c1x, e2x, c2x, e3x, c3x, e4x, c4x, e5x, c5x, h143b, hc0]; try dsimp only [kx_wp, kx_step, kx_lI, kx_lL, kx_lA, kx_gl, kx_pI, kx_pL, kx_pR, kx_pA, kx_pV, kx_s1, kx_s2, kx_sl, kx_pre, kx_c2, kx_pl, kx_cmp, kx_oF, kx_eqN, kx_nil, kx_c1, kx_ft, kx_aI, kx_aL, kx_aR, kx_ln, Nat.reduceAdd, Option.toList, List.cons_append, List.nil_append])
  repeat' apply And.intro
  all_goals try (first | with_reducible assumption | (with_reducible refine ck_nzI ?_; simp; done) | (with_reducible refine ck_nzL ?_; simp; done) | (with_reducible refine vp_in_nI ?_ ?_ <;> first | omega | decide) | (with_reducible refine Nat.le_of_ble_eq_true ?_; rfl) | omega | (unfold vp_in; decide))
  · intro zc998
    refine hB bL_law__1003 _ _ _ _ _ _ _ kL_law__1003 ?_
    dsimp only [bL_law__1003, kx_wp, kx_step, kx_lI, kx_lL, kx_lA, kx_gl, kx_pI, kx_pL, kx_pR, kx_pA, kx_pV, kx_s1, kx_s2, kx_sl, kx_pre, kx_c2, kx_pl, kx_cmp, kx_oF, kx_eqN, kx_nil, kx_c1, kx_ft, kx_aI, kx_aL, kx_aR, kx_ln, Nat.reduceAdd, Option.toList, List.cons_append, List.nil_append]
    repeat (simp only [e1x, c1x, e2x, c2x, e3x, c3x, e4x, c4x, e5x, c5x, h143b, hc0]; try dsimp only [kx_wp, kx_step, kx_lI, kx_lL, kx_lA, kx_gl, kx_pI, kx_pL, kx_pR, kx_pA, kx_pV, kx_s1, kx_s2, kx_sl, kx_pre, kx_c2, kx_pl, kx_cmp, kx_oF, kx_eqN, kx_nil, kx_c1, kx_ft, kx_aI, kx_aL, kx_aR, kx_ln, Nat.reduceAdd, Option.toList, List.cons_append, List.nil_append])
    repeat' apply And.intro
    all_goals try (first | with_reducible assumption | (with_reducible refine ck_nzI ?_; simp; done) | (with_reducible refine ck_nzL ?_; simp; done) | (with_reducible refine vp_in_nI ?_ ?_ <;> first | omega | decide) | (with_reducible refine Nat.le_of_ble_eq_true ?_; rfl) | omega | (unfold vp_in; decide))
    · intro zc1005
      refine hB bL_law__1020 _ _ _ _ _ _ _ kL_law__1020 ?_
      dsimp only [bL_law__1020, kx_wp, kx_step, kx_lI, kx_lL, kx_lA, kx_gl, kx_pI, kx_pL, kx_pR, kx_pA, kx_pV, kx_s1, kx_s2, kx_sl, kx_pre, kx_c2, kx_pl, kx_cmp, kx_oF, kx_eqN, kx_nil, kx_c1, kx_ft, kx_aI, kx_aL, kx_aR, kx_ln, Nat.reduceAdd, Option.toList, List.cons_append, List.nil_append]
      repeat (simp only [e1x, c1x, e2x, c2x, e3x, c3x, e4x, c4x, e5x, c5x, h143b, hc0]; try dsimp only [kx_wp, kx_step, kx_lI, kx_lL, kx_lA, kx_gl, kx_pI, kx_pL, kx_pR, kx_pA, kx_pV, kx_s1, kx_s2, kx_sl, kx_pre, kx_c2, kx_pl, kx_cmp, kx_oF, kx_eqN, kx_nil, kx_c1, kx_ft, kx_aI, kx_aL, kx_aR, kx_ln, Nat.reduceAdd, Option.toList, List.cons_append, List.nil_append])
      repeat' apply And.intro
      all_goals try (first | with_reducible assumption | (with_reducible refine ck_nzI ?_; simp; done) | (with_reducible refine ck_nzL ?_; simp; done) | (with_reducible refine vp_in_nI ?_ ?_ <;> first | omega | decide) | (with_reducible refine Nat.le_of_ble_eq_true ?_; rfl) | omega | (unfold vp_in; decide))
      exact hgo P3 s2 S2 cl1 mi1 se1 bl1 go2 _ _ _ _ _ hI h34 h143b (by omega) (by omega) (by omega)
    · intro zc1005
      refine hB bL_law__1008 _ _ _ _ _ _ _ kL_law__1008 ?_
      dsimp only [bL_law__1008, kx_wp, kx_step, kx_lI, kx_lL, kx_lA, kx_gl, kx_pI, kx_pL, kx_pR, kx_pA, kx_pV, kx_s1, kx_s2, kx_sl, kx_pre, kx_c2, kx_pl, kx_cmp, kx_oF, kx_eqN, kx_nil, kx_c1, kx_ft, kx_aI, kx_aL, kx_aR, kx_ln, Nat.reduceAdd, Option.toList, List.cons_append, List.nil_append]
      repeat (simp only [e1x, c1x, e2x, c2x, e3x, c3x, e4x, c4x, e5x, c5x, h143b, hc0]; try dsimp only [kx_wp, kx_step, kx_lI, kx_lL, kx_lA, kx_gl, kx_pI, kx_pL, kx_pR, kx_pA, kx_pV, kx_s1, kx_s2, kx_sl, kx_pre, kx_c2, kx_pl, kx_cmp, kx_oF, kx_eqN, kx_nil, kx_c1, kx_ft, kx_aI, kx_aL, kx_aR, kx_ln, Nat.reduceAdd, Option.toList, List.cons_append, List.nil_append])
      repeat' apply And.intro
      all_goals try (first | with_reducible assumption | (with_reducible refine ck_nzI ?_; simp; done) | (with_reducible refine ck_nzL ?_; simp; done) | (with_reducible refine vp_in_nI ?_ ?_ <;> first | omega | decide) | (with_reducible refine Nat.le_of_ble_eq_true ?_; rfl) | omega | (unfold vp_in; decide))
      · intro zc1015
        refine hB bL_law__1020 _ _ _ _ _ _ _ kL_law__1020 ?_
        dsimp only [bL_law__1020, kx_wp, kx_step, kx_lI, kx_lL, kx_lA, kx_gl, kx_pI, kx_pL, kx_pR, kx_pA, kx_pV, kx_s1, kx_s2, kx_sl, kx_pre, kx_c2, kx_pl, kx_cmp, kx_oF, kx_eqN, kx_nil, kx_c1, kx_ft, kx_aI, kx_aL, kx_aR, kx_ln, Nat.reduceAdd, Option.toList, List.cons_append, List.nil_append]
        repeat (simp only [e1x, c1x, e2x, c2x, e3x, c3x, e4x, c4x, e5x, c5x, h143b, hc0]; try dsimp only [kx_wp, kx_step, kx_lI, kx_lL, kx_lA, kx_gl, kx_pI, kx_pL, kx_pR, kx_pA, kx_pV, kx_s1, kx_s2, kx_sl, kx_pre, kx_c2, kx_pl, kx_cmp, kx_oF, kx_eqN, kx_nil, kx_c1, kx_ft, kx_aI, kx_aL, kx_aR, kx_ln, Nat.reduceAdd, Option.toList, List.cons_append, List.nil_append])
        repeat' apply And.intro
        all_goals try (first | with_reducible assumption | (with_reducible refine ck_nzI ?_; simp; done) | (with_reducible refine ck_nzL ?_; simp; done) | (with_reducible refine vp_in_nI ?_ ?_ <;> first | omega | decide) | (with_reducible refine Nat.le_of_ble_eq_true ?_; rfl) | omega | (unfold vp_in; decide))
        exact hgo P3 s2 S2 cl1 mi1 se1 bl1 go2 _ _ _ _ _ hI h34 h143b (by omega) (by omega) (by omega)
      · intro zc1015
        first | exact absurd rfl zc1015 | exact absurd zc1015 (by decide) | exact absurd (by decide) zc1015 | (exfalso; first | exact zc1015 (by rw [hgo0 (Decidable.not_not.mp zc1005)]; exact lg_cmp_s _)) | (exfalso; simp_all; done)
  · intro zc998
    first | exact absurd rfl zc998 | exact absurd zc998 (by decide) | exact absurd (by decide) zc998 | (exfalso; first | exact zc1015 (by rw [hgo0 (Decidable.not_not.mp zc1005)]; exact lg_cmp_s _)) | (exfalso; simp_all; done)

set_option maxRecDepth 100000 in
set_option maxHeartbeats 4000000 in
theorem cj_pennies (l : Launch) (G : kx_G) (hst : l.stackTraces = false) {P : kx_P} {sz : Nat} {M : Nat → Int32} {A : Nat → Nat → Int32} {L : Nat → Nat → Int64} {cl mi se : Nat} {bl : Nat → Nat} {go : Nat → Int64} {Ln i k n : Nat} {xs : Nat → Int32} {o5 o6 o7 : Option Value} {g : kx_F} (h : cI P sz (M, A, L) cl mi se bl) (h3 : P 3 = kI 5 Ln xs) (h143 : P 143 = kL 1 go) (hi : i + 6 ≤ Ln) (hL : Ln ≤ 3072) (hk : k + 8 ≤ 601024) (hn : n + cro bl + 2206 ≤ 7293033) (hse : se ≤ 999) (hB : kx_rB kxL_L false cL_law_ 601024 7293033 (fun r _ _ => r = some (.int 1)) g) (hN : kx_rN l G RL cL_law_ 60 601024 7293033 g) (hW : kx_rW l G RL cL_law_ 60 601024 7293033 g) (hgo : cAf g Ln xs i se k n bl) : g 1023 [some (.ref 3), some (.ref 64), some (.ref 93), some (.ref 143), some (.int (nI i)), o5, o6, o7] [] P sz k n := by
  have e1x : nI i + 1 = nI (i + 1) := by rw [show (1 : Int32) = nI 1 from rfl, nI_add]
  have c1x : (nI (i + 1)).toNatClampNeg = i + 1 := nI_clamp (by omega)
  have e2x : nI i + 2 = nI (i + 2) := by rw [show (2 : Int32) = nI 2 from rfl, nI_add]
  have c2x : (nI (i + 2)).toNatClampNeg = i + 2 := nI_clamp (by omega)
  have e3x : nI i + 3 = nI (i + 3) := by rw [show (3 : Int32) = nI 3 from rfl, nI_add]
  have c3x : (nI (i + 3)).toNatClampNeg = i + 3 := nI_clamp (by omega)
  have e4x : nI i + 4 = nI (i + 4) := by rw [show (4 : Int32) = nI 4 from rfl, nI_add]
  have c4x : (nI (i + 4)).toNatClampNeg = i + 4 := nI_clamp (by omega)
  have e5x : nI i + 5 = nI (i + 5) := by rw [show (5 : Int32) = nI 5 from rfl, nI_add]
  have c5x : (nI (i + 5)).toNatClampNeg = i + 5 := nI_clamp (by omega)
  have hc0 : (0 : Int32).toNatClampNeg = 0 := rfl
  obtain ⟨f64, h64⟩ := cI_k64 h
  have hs := cs_pennies l G hst h (xs (i + 1)) (xs (i + 2))
  obtain ⟨k9, dw, dm, mc, ms, cl1, mi1, se1, bl1, Q, q1, q2, q3, q4, q5, hw, hmo⟩ := cSs.s (yw := sL_pennies) (hh := hL_pennies) (Aw := [.ref 64, .int (xs (i + 1)), .int (xs (i + 2)), .ref 143]) h h143 hs (fun d mc ms Po => cw_pennies_t l G h64) (fun p hp => by
    simp only [List.mem_cons, List.not_mem_nil, or_false] at hp
    rcases hp with rfl | rfl
    · exact ⟨by decide, fun d => cw_pennies_x0 l G h64⟩
    · exact ⟨by decide, fun d => cw_pennies_x1 l G h64⟩)
  refine hB bL_law__1023 _ _ _ _ _ _ _ kL_law__1023 ?_
  dsimp only [bL_law__1023, kx_wp, kx_step, kx_lI, kx_lL, kx_lA, kx_gl, kx_pI, kx_pL, kx_pR, kx_pA, kx_pV, kx_s1, kx_s2, kx_sl, kx_pre, kx_c2, kx_pl, kx_cmp, kx_oF, kx_eqN, kx_nil, kx_c1, kx_ft, kx_aI, kx_aL, kx_aR, kx_ln, Nat.reduceAdd, Option.toList, List.cons_append, List.nil_append]
  repeat (simp only [e1x, c1x, e2x, c2x, e3x, c3x, e4x, c4x, e5x, c5x, h3]; try dsimp only [kx_wp, kx_step, kx_lI, kx_lL, kx_lA, kx_gl, kx_pI, kx_pL, kx_pR, kx_pA, kx_pV, kx_s1, kx_s2, kx_sl, kx_pre, kx_c2, kx_pl, kx_cmp, kx_oF, kx_eqN, kx_nil, kx_c1, kx_ft, kx_aI, kx_aL, kx_aR, kx_ln, Nat.reduceAdd, Option.toList, List.cons_append, List.nil_append])
  repeat' apply And.intro
  all_goals try (first | with_reducible assumption | (with_reducible refine ck_nzI ?_; simp; done) | (with_reducible refine ck_nzL ?_; simp; done) | (with_reducible refine vp_in_nI ?_ ?_ <;> first | omega | decide) | (with_reducible refine Nat.le_of_ble_eq_true ?_; rfl) | omega | (unfold vp_in; decide))
  refine hW 171 _ _ _ _ _ _ _ _ _ _ _ _ _ _ _ _ lL_171 hw rfl rfl (Nat.le_of_ble_eq_true rfl) (by omega) (by decide) (by omega) (by omega) dL_law__1037 ?_
  rintro r2 P2 s2 ⟨e2, hQ⟩
  rw [e2]
  obtain ⟨⟨fm, h93⟩, h33, hM⟩ := hmo P2 s2 hQ
  have h33 := h33.trans h3
  dsimp only [Option.toList, List.cons_append, List.nil_append]
  refine hB bL_law__1040 _ _ _ _ _ _ _ kL_law__1040 ?_
  dsimp only [bL_law__1040, kx_wp, kx_step, kx_lI, kx_lL, kx_lA, kx_gl, kx_pI, kx_pL, kx_pR, kx_pA, kx_pV, kx_s1, kx_s2, kx_sl, kx_pre, kx_c2, kx_pl, kx_cmp, kx_oF, kx_eqN, kx_nil, kx_c1, kx_ft, kx_aI, kx_aL, kx_aR, kx_ln, Nat.reduceAdd, Option.toList, List.cons_append, List.nil_append]
  repeat (simp only [e1x, c1x, e2x, c2x, e3x, c3x, e4x, c4x, e5x, c5x, h33]; try dsimp only [kx_wp, kx_step, kx_lI, kx_lL, kx_lA, kx_gl, kx_pI, kx_pL, kx_pR, kx_pA, kx_pV, kx_s1, kx_s2, kx_sl, kx_pre, kx_c2, kx_pl, kx_cmp, kx_oF, kx_eqN, kx_nil, kx_c1, kx_ft, kx_aI, kx_aL, kx_aR, kx_ln, Nat.reduceAdd, Option.toList, List.cons_append, List.nil_append])
  repeat' apply And.intro
  all_goals try (first | with_reducible assumption | (with_reducible refine ck_nzI ?_; simp; done) | (with_reducible refine ck_nzL ?_; simp; done) | (with_reducible refine vp_in_nI ?_ ?_ <;> first | omega | decide) | (with_reducible refine Nat.le_of_ble_eq_true ?_; rfl) | omega | (unfold vp_in; decide))
  refine hN.1 173 _ _ _ _ _ _ _ 11 _ _ _ _ _ _ _ _ _ _ lL_173 hM ⟨by decide, rfl⟩ h93 rfl rfl (Nat.le_of_ble_eq_true rfl) (by omega) (by decide) (by omega) (by omega) dL_law__1055 ?_
  rintro r3 P3 s3 ⟨e3, v, S2, go2, e4, hT, hk0, hI, h34, h143b, hgo0⟩
  obtain ⟨b9, e5⟩ := hT.2 (by decide)
  subst e5
  rw [e3, e4]
  have h34 := h34.trans h3
  have h93b := cI_93 hI
  have hth := cI_th l G hI
  rw [hk0] at hth
  dsimp only [Option.toList, List.cons_append, List.nil_append]
  refine hB bL_law__1058 _ _ _ _ _ _ _ kL_law__1058 ?_
  dsimp only [bL_law__1058, kx_wp, kx_step, kx_lI, kx_lL, kx_lA, kx_gl, kx_pI, kx_pL, kx_pR, kx_pA, kx_pV, kx_s1, kx_s2, kx_sl, kx_pre, kx_c2, kx_pl, kx_cmp, kx_oF, kx_eqN, kx_nil, kx_c1, kx_ft, kx_aI, kx_aL, kx_aR, kx_ln, Nat.reduceAdd, Option.toList, List.cons_append, List.nil_append]
  repeat (simp only [e1x, c1x, e2x, c2x, e3x, c3x, e4x, c4x, e5x, c5x, h143b, hc0]; try dsimp only [kx_wp, kx_step, kx_lI, kx_lL, kx_lA, kx_gl, kx_pI, kx_pL, kx_pR, kx_pA, kx_pV, kx_s1, kx_s2, kx_sl, kx_pre, kx_c2, kx_pl, kx_cmp, kx_oF, kx_eqN, kx_nil, kx_c1, kx_ft, kx_aI, kx_aL, kx_aR, kx_ln, Nat.reduceAdd, Option.toList, List.cons_append, List.nil_append])
  repeat' apply And.intro
  all_goals try (first | with_reducible assumption | (with_reducible refine ck_nzI ?_; simp; done) | (with_reducible refine ck_nzL ?_; simp; done) | (with_reducible refine vp_in_nI ?_ ?_ <;> first | omega | decide) | (with_reducible refine Nat.le_of_ble_eq_true ?_; rfl) | omega | (unfold vp_in; decide))
  refine hN.1 120 _ _ _ _ _ _ _ 11 _ _ _ _ _ _ _ _ _ _ lL_120 hth.n ⟨by decide, rfl⟩ h93b rfl rfl (Nat.le_of_ble_eq_true rfl) (by omega) (by decide) (by omega) (by omega) dL_law__1061 ?_
  rintro r4 P4 s4 ⟨e6, e7, e8⟩
  rw [e6, e7, e8]
  dsimp only [Option.toList, List.cons_append, List.nil_append]
  refine hB bL_law__1064 _ _ _ _ _ _ _ kL_law__1064 ?_
  dsimp only [bL_law__1064, kx_wp, kx_step, kx_lI, kx_lL, kx_lA, kx_gl, kx_pI, kx_pL, kx_pR, kx_pA, kx_pV, kx_s1, kx_s2, kx_sl, kx_pre, kx_c2, kx_pl, kx_cmp, kx_oF, kx_eqN, kx_nil, kx_c1, kx_ft, kx_aI, kx_aL, kx_aR, kx_ln, Nat.reduceAdd, Option.toList, List.cons_append, List.nil_append]
  repeat (simp only [e1x, c1x, e2x, c2x, e3x, c3x, e4x, c4x, e5x, c5x, h143b, hc0]; try dsimp only [kx_wp, kx_step, kx_lI, kx_lL, kx_lA, kx_gl, kx_pI, kx_pL, kx_pR, kx_pA, kx_pV, kx_s1, kx_s2, kx_sl, kx_pre, kx_c2, kx_pl, kx_cmp, kx_oF, kx_eqN, kx_nil, kx_c1, kx_ft, kx_aI, kx_aL, kx_aR, kx_ln, Nat.reduceAdd, Option.toList, List.cons_append, List.nil_append])
  repeat' apply And.intro
  all_goals try (first | with_reducible assumption | (with_reducible refine ck_nzI ?_; simp; done) | (with_reducible refine ck_nzL ?_; simp; done) | (with_reducible refine vp_in_nI ?_ ?_ <;> first | omega | decide) | (with_reducible refine Nat.le_of_ble_eq_true ?_; rfl) | omega | (unfold vp_in; decide))
  · intro zc1066
    refine hB bL_law__1071 _ _ _ _ _ _ _ kL_law__1071 ?_
    dsimp only [bL_law__1071, kx_wp, kx_step, kx_lI, kx_lL, kx_lA, kx_gl, kx_pI, kx_pL, kx_pR, kx_pA, kx_pV, kx_s1, kx_s2, kx_sl, kx_pre, kx_c2, kx_pl, kx_cmp, kx_oF, kx_eqN, kx_nil, kx_c1, kx_ft, kx_aI, kx_aL, kx_aR, kx_ln, Nat.reduceAdd, Option.toList, List.cons_append, List.nil_append]
    repeat (simp only [e1x, c1x, e2x, c2x, e3x, c3x, e4x, c4x, e5x, c5x, h143b, hc0]; try dsimp only [kx_wp, kx_step, kx_lI, kx_lL, kx_lA, kx_gl, kx_pI, kx_pL, kx_pR, kx_pA, kx_pV, kx_s1, kx_s2, kx_sl, kx_pre, kx_c2, kx_pl, kx_cmp, kx_oF, kx_eqN, kx_nil, kx_c1, kx_ft, kx_aI, kx_aL, kx_aR, kx_ln, Nat.reduceAdd, Option.toList, List.cons_append, List.nil_append])
    repeat' apply And.intro
    all_goals try (first | with_reducible assumption | (with_reducible refine ck_nzI ?_; simp; done) | (with_reducible refine ck_nzL ?_; simp; done) | (with_reducible refine vp_in_nI ?_ ?_ <;> first | omega | decide) | (with_reducible refine Nat.le_of_ble_eq_true ?_; rfl) | omega | (unfold vp_in; decide))
    · intro zc1073
      refine hB bL_law__1088 _ _ _ _ _ _ _ kL_law__1088 ?_
      dsimp only [bL_law__1088, kx_wp, kx_step, kx_lI, kx_lL, kx_lA, kx_gl, kx_pI, kx_pL, kx_pR, kx_pA, kx_pV, kx_s1, kx_s2, kx_sl, kx_pre, kx_c2, kx_pl, kx_cmp, kx_oF, kx_eqN, kx_nil, kx_c1, kx_ft, kx_aI, kx_aL, kx_aR, kx_ln, Nat.reduceAdd, Option.toList, List.cons_append, List.nil_append]
      repeat (simp only [e1x, c1x, e2x, c2x, e3x, c3x, e4x, c4x, e5x, c5x, h143b, hc0]; try dsimp only [kx_wp, kx_step, kx_lI, kx_lL, kx_lA, kx_gl, kx_pI, kx_pL, kx_pR, kx_pA, kx_pV, kx_s1, kx_s2, kx_sl, kx_pre, kx_c2, kx_pl, kx_cmp, kx_oF, kx_eqN, kx_nil, kx_c1, kx_ft, kx_aI, kx_aL, kx_aR, kx_ln, Nat.reduceAdd, Option.toList, List.cons_append, List.nil_append])
      repeat' apply And.intro
      all_goals try (first | with_reducible assumption | (with_reducible refine ck_nzI ?_; simp; done) | (with_reducible refine ck_nzL ?_; simp; done) | (with_reducible refine vp_in_nI ?_ ?_ <;> first | omega | decide) | (with_reducible refine Nat.le_of_ble_eq_true ?_; rfl) | omega | (unfold vp_in; decide))
      exact hgo P3 s2 S2 cl1 mi1 se1 bl1 go2 _ _ _ _ _ hI h34 h143b (by omega) (by omega) (by omega)
    · intro zc1073
      refine hB bL_law__1076 _ _ _ _ _ _ _ kL_law__1076 ?_
      dsimp only [bL_law__1076, kx_wp, kx_step, kx_lI, kx_lL, kx_lA, kx_gl, kx_pI, kx_pL, kx_pR, kx_pA, kx_pV, kx_s1, kx_s2, kx_sl, kx_pre, kx_c2, kx_pl, kx_cmp, kx_oF, kx_eqN, kx_nil, kx_c1, kx_ft, kx_aI, kx_aL, kx_aR, kx_ln, Nat.reduceAdd, Option.toList, List.cons_append, List.nil_append]
      repeat (simp only [e1x, c1x, e2x, c2x, e3x, c3x, e4x, c4x, e5x, c5x, h143b, hc0]; try dsimp only [kx_wp, kx_step, kx_lI, kx_lL, kx_lA, kx_gl, kx_pI, kx_pL, kx_pR, kx_pA, kx_pV, kx_s1, kx_s2, kx_sl, kx_pre, kx_c2, kx_pl, kx_cmp, kx_oF, kx_eqN, kx_nil, kx_c1, kx_ft, kx_aI, kx_aL, kx_aR, kx_ln, Nat.reduceAdd, Option.toList, List.cons_append, List.nil_append])
      repeat' apply And.intro
      all_goals try (first | with_reducible assumption | (with_reducible refine ck_nzI ?_; simp; done) | (with_reducible refine ck_nzL ?_; simp; done) | (with_reducible refine vp_in_nI ?_ ?_ <;> first | omega | decide) | (with_reducible refine Nat.le_of_ble_eq_true ?_; rfl) | omega | (unfold vp_in; decide))
      · intro zc1083
        refine hB bL_law__1088 _ _ _ _ _ _ _ kL_law__1088 ?_
        dsimp only [bL_law__1088, kx_wp, kx_step, kx_lI, kx_lL, kx_lA, kx_gl, kx_pI, kx_pL, kx_pR, kx_pA, kx_pV, kx_s1, kx_s2, kx_sl, kx_pre, kx_c2, kx_pl, kx_cmp, kx_oF, kx_eqN, kx_nil, kx_c1, kx_ft, kx_aI, kx_aL, kx_aR, kx_ln, Nat.reduceAdd, Option.toList, List.cons_append, List.nil_append]
        repeat (simp only [e1x, c1x, e2x, c2x, e3x, c3x, e4x, c4x, e5x, c5x, h143b, hc0]; try dsimp only [kx_wp, kx_step, kx_lI, kx_lL, kx_lA, kx_gl, kx_pI, kx_pL, kx_pR, kx_pA, kx_pV, kx_s1, kx_s2, kx_sl, kx_pre, kx_c2, kx_pl, kx_cmp, kx_oF, kx_eqN, kx_nil, kx_c1, kx_ft, kx_aI, kx_aL, kx_aR, kx_ln, Nat.reduceAdd, Option.toList, List.cons_append, List.nil_append])
        repeat' apply And.intro
        all_goals try (first | with_reducible assumption | (with_reducible refine ck_nzI ?_; simp; done) | (with_reducible refine ck_nzL ?_; simp; done) | (with_reducible refine vp_in_nI ?_ ?_ <;> first | omega | decide) | (with_reducible refine Nat.le_of_ble_eq_true ?_; rfl) | omega | (unfold vp_in; decide))
        exact hgo P3 s2 S2 cl1 mi1 se1 bl1 go2 _ _ _ _ _ hI h34 h143b (by omega) (by omega) (by omega)
      · intro zc1083
        first | exact absurd rfl zc1083 | exact absurd zc1083 (by decide) | exact absurd (by decide) zc1083 | (exfalso; first | exact zc1083 (by rw [hgo0 (Decidable.not_not.mp zc1073)]; exact lg_cmp_s _)) | (exfalso; simp_all; done)
  · intro zc1066
    first | exact absurd rfl zc1066 | exact absurd zc1066 (by decide) | exact absurd (by decide) zc1066 | (exfalso; first | exact zc1083 (by rw [hgo0 (Decidable.not_not.mp zc1073)]; exact lg_cmp_s _)) | (exfalso; simp_all; done)

set_option maxRecDepth 100000 in
set_option maxHeartbeats 4000000 in
theorem cj_refit (l : Launch) (G : kx_G) (hst : l.stackTraces = false) {P : kx_P} {sz : Nat} {M : Nat → Int32} {A : Nat → Nat → Int32} {L : Nat → Nat → Int64} {cl mi se : Nat} {bl : Nat → Nat} {go : Nat → Int64} {Ln i k n : Nat} {xs : Nat → Int32} {o5 o6 o7 : Option Value} {g : kx_F} (h : cI P sz (M, A, L) cl mi se bl) (h3 : P 3 = kI 5 Ln xs) (h143 : P 143 = kL 1 go) (hi : i + 6 ≤ Ln) (hL : Ln ≤ 3072) (hk : k + 8 ≤ 601024) (hn : n + cro bl + 2206 ≤ 7293033) (hse : se ≤ 999) (hB : kx_rB kxL_L false cL_law_ 601024 7293033 (fun r _ _ => r = some (.int 1)) g) (hN : kx_rN l G RL cL_law_ 60 601024 7293033 g) (hW : kx_rW l G RL cL_law_ 60 601024 7293033 g) (hgo : cAf g Ln xs i se k n bl) : g 1091 [some (.ref 3), some (.ref 64), some (.ref 93), some (.ref 143), some (.int (nI i)), o5, o6, o7] [] P sz k n := by
  have e1x : nI i + 1 = nI (i + 1) := by rw [show (1 : Int32) = nI 1 from rfl, nI_add]
  have c1x : (nI (i + 1)).toNatClampNeg = i + 1 := nI_clamp (by omega)
  have e2x : nI i + 2 = nI (i + 2) := by rw [show (2 : Int32) = nI 2 from rfl, nI_add]
  have c2x : (nI (i + 2)).toNatClampNeg = i + 2 := nI_clamp (by omega)
  have e3x : nI i + 3 = nI (i + 3) := by rw [show (3 : Int32) = nI 3 from rfl, nI_add]
  have c3x : (nI (i + 3)).toNatClampNeg = i + 3 := nI_clamp (by omega)
  have e4x : nI i + 4 = nI (i + 4) := by rw [show (4 : Int32) = nI 4 from rfl, nI_add]
  have c4x : (nI (i + 4)).toNatClampNeg = i + 4 := nI_clamp (by omega)
  have e5x : nI i + 5 = nI (i + 5) := by rw [show (5 : Int32) = nI 5 from rfl, nI_add]
  have c5x : (nI (i + 5)).toNatClampNeg = i + 5 := nI_clamp (by omega)
  have hc0 : (0 : Int32).toNatClampNeg = 0 := rfl
  obtain ⟨f64, h64⟩ := cI_k64 h
  have hs := cs_refit l G hst h (xs (i + 1)) (xs (i + 2))
  obtain ⟨k9, dw, dm, mc, ms, cl1, mi1, se1, bl1, Q, q1, q2, q3, q4, q5, hw, hmo⟩ := cSs.s (yw := sL_refit) (hh := hL_refit) (Aw := [.ref 64, .int (xs (i + 1)), .int (xs (i + 2)), .ref 143]) h h143 hs (fun d mc ms Po => cw_refit_t l G h64) (fun p hp => by
    simp only [List.mem_cons, List.not_mem_nil, or_false] at hp
    rcases hp with rfl | rfl
    · exact ⟨by decide, fun d => cw_refit_x0 l G h64⟩
    · exact ⟨by decide, fun d => cw_refit_x1 l G h64⟩)
  refine hB bL_law__1091 _ _ _ _ _ _ _ kL_law__1091 ?_
  dsimp only [bL_law__1091, kx_wp, kx_step, kx_lI, kx_lL, kx_lA, kx_gl, kx_pI, kx_pL, kx_pR, kx_pA, kx_pV, kx_s1, kx_s2, kx_sl, kx_pre, kx_c2, kx_pl, kx_cmp, kx_oF, kx_eqN, kx_nil, kx_c1, kx_ft, kx_aI, kx_aL, kx_aR, kx_ln, Nat.reduceAdd, Option.toList, List.cons_append, List.nil_append]
  repeat (simp only [e1x, c1x, e2x, c2x, e3x, c3x, e4x, c4x, e5x, c5x, h3]; try dsimp only [kx_wp, kx_step, kx_lI, kx_lL, kx_lA, kx_gl, kx_pI, kx_pL, kx_pR, kx_pA, kx_pV, kx_s1, kx_s2, kx_sl, kx_pre, kx_c2, kx_pl, kx_cmp, kx_oF, kx_eqN, kx_nil, kx_c1, kx_ft, kx_aI, kx_aL, kx_aR, kx_ln, Nat.reduceAdd, Option.toList, List.cons_append, List.nil_append])
  repeat' apply And.intro
  all_goals try (first | with_reducible assumption | (with_reducible refine ck_nzI ?_; simp; done) | (with_reducible refine ck_nzL ?_; simp; done) | (with_reducible refine vp_in_nI ?_ ?_ <;> first | omega | decide) | (with_reducible refine Nat.le_of_ble_eq_true ?_; rfl) | omega | (unfold vp_in; decide))
  refine hW 174 _ _ _ _ _ _ _ _ _ _ _ _ _ _ _ _ lL_174 hw rfl rfl (Nat.le_of_ble_eq_true rfl) (by omega) (by decide) (by omega) (by omega) dL_law__1105 ?_
  rintro r2 P2 s2 ⟨e2, hQ⟩
  rw [e2]
  obtain ⟨⟨fm, h93⟩, h33, hM⟩ := hmo P2 s2 hQ
  have h33 := h33.trans h3
  dsimp only [Option.toList, List.cons_append, List.nil_append]
  refine hB bL_law__1108 _ _ _ _ _ _ _ kL_law__1108 ?_
  dsimp only [bL_law__1108, kx_wp, kx_step, kx_lI, kx_lL, kx_lA, kx_gl, kx_pI, kx_pL, kx_pR, kx_pA, kx_pV, kx_s1, kx_s2, kx_sl, kx_pre, kx_c2, kx_pl, kx_cmp, kx_oF, kx_eqN, kx_nil, kx_c1, kx_ft, kx_aI, kx_aL, kx_aR, kx_ln, Nat.reduceAdd, Option.toList, List.cons_append, List.nil_append]
  repeat (simp only [e1x, c1x, e2x, c2x, e3x, c3x, e4x, c4x, e5x, c5x, h33]; try dsimp only [kx_wp, kx_step, kx_lI, kx_lL, kx_lA, kx_gl, kx_pI, kx_pL, kx_pR, kx_pA, kx_pV, kx_s1, kx_s2, kx_sl, kx_pre, kx_c2, kx_pl, kx_cmp, kx_oF, kx_eqN, kx_nil, kx_c1, kx_ft, kx_aI, kx_aL, kx_aR, kx_ln, Nat.reduceAdd, Option.toList, List.cons_append, List.nil_append])
  repeat' apply And.intro
  all_goals try (first | with_reducible assumption | (with_reducible refine ck_nzI ?_; simp; done) | (with_reducible refine ck_nzL ?_; simp; done) | (with_reducible refine vp_in_nI ?_ ?_ <;> first | omega | decide) | (with_reducible refine Nat.le_of_ble_eq_true ?_; rfl) | omega | (unfold vp_in; decide))
  refine hN.1 176 _ _ _ _ _ _ _ 11 _ _ _ _ _ _ _ _ _ _ lL_176 hM ⟨by decide, rfl⟩ h93 rfl rfl (Nat.le_of_ble_eq_true rfl) (by omega) (by decide) (by omega) (by omega) dL_law__1123 ?_
  rintro r3 P3 s3 ⟨e3, v, S2, go2, e4, hT, hk0, hI, h34, h143b, hgo0⟩
  obtain ⟨b9, e5⟩ := hT.2 (by decide)
  subst e5
  rw [e3, e4]
  have h34 := h34.trans h3
  have h93b := cI_93 hI
  have hth := cI_th l G hI
  rw [hk0] at hth
  dsimp only [Option.toList, List.cons_append, List.nil_append]
  refine hB bL_law__1126 _ _ _ _ _ _ _ kL_law__1126 ?_
  dsimp only [bL_law__1126, kx_wp, kx_step, kx_lI, kx_lL, kx_lA, kx_gl, kx_pI, kx_pL, kx_pR, kx_pA, kx_pV, kx_s1, kx_s2, kx_sl, kx_pre, kx_c2, kx_pl, kx_cmp, kx_oF, kx_eqN, kx_nil, kx_c1, kx_ft, kx_aI, kx_aL, kx_aR, kx_ln, Nat.reduceAdd, Option.toList, List.cons_append, List.nil_append]
  repeat (simp only [e1x, c1x, e2x, c2x, e3x, c3x, e4x, c4x, e5x, c5x, h143b, hc0]; try dsimp only [kx_wp, kx_step, kx_lI, kx_lL, kx_lA, kx_gl, kx_pI, kx_pL, kx_pR, kx_pA, kx_pV, kx_s1, kx_s2, kx_sl, kx_pre, kx_c2, kx_pl, kx_cmp, kx_oF, kx_eqN, kx_nil, kx_c1, kx_ft, kx_aI, kx_aL, kx_aR, kx_ln, Nat.reduceAdd, Option.toList, List.cons_append, List.nil_append])
  repeat' apply And.intro
  all_goals try (first | with_reducible assumption | (with_reducible refine ck_nzI ?_; simp; done) | (with_reducible refine ck_nzL ?_; simp; done) | (with_reducible refine vp_in_nI ?_ ?_ <;> first | omega | decide) | (with_reducible refine Nat.le_of_ble_eq_true ?_; rfl) | omega | (unfold vp_in; decide))
  refine hN.1 120 _ _ _ _ _ _ _ 11 _ _ _ _ _ _ _ _ _ _ lL_120 hth.n ⟨by decide, rfl⟩ h93b rfl rfl (Nat.le_of_ble_eq_true rfl) (by omega) (by decide) (by omega) (by omega) dL_law__1129 ?_
  rintro r4 P4 s4 ⟨e6, e7, e8⟩
  rw [e6, e7, e8]
  dsimp only [Option.toList, List.cons_append, List.nil_append]
  refine hB bL_law__1132 _ _ _ _ _ _ _ kL_law__1132 ?_
  dsimp only [bL_law__1132, kx_wp, kx_step, kx_lI, kx_lL, kx_lA, kx_gl, kx_pI, kx_pL, kx_pR, kx_pA, kx_pV, kx_s1, kx_s2, kx_sl, kx_pre, kx_c2, kx_pl, kx_cmp, kx_oF, kx_eqN, kx_nil, kx_c1, kx_ft, kx_aI, kx_aL, kx_aR, kx_ln, Nat.reduceAdd, Option.toList, List.cons_append, List.nil_append]
  repeat (simp only [e1x, c1x, e2x, c2x, e3x, c3x, e4x, c4x, e5x, c5x, h143b, hc0]; try dsimp only [kx_wp, kx_step, kx_lI, kx_lL, kx_lA, kx_gl, kx_pI, kx_pL, kx_pR, kx_pA, kx_pV, kx_s1, kx_s2, kx_sl, kx_pre, kx_c2, kx_pl, kx_cmp, kx_oF, kx_eqN, kx_nil, kx_c1, kx_ft, kx_aI, kx_aL, kx_aR, kx_ln, Nat.reduceAdd, Option.toList, List.cons_append, List.nil_append])
  repeat' apply And.intro
  all_goals try (first | with_reducible assumption | (with_reducible refine ck_nzI ?_; simp; done) | (with_reducible refine ck_nzL ?_; simp; done) | (with_reducible refine vp_in_nI ?_ ?_ <;> first | omega | decide) | (with_reducible refine Nat.le_of_ble_eq_true ?_; rfl) | omega | (unfold vp_in; decide))
  · intro zc1134
    refine hB bL_law__1139 _ _ _ _ _ _ _ kL_law__1139 ?_
    dsimp only [bL_law__1139, kx_wp, kx_step, kx_lI, kx_lL, kx_lA, kx_gl, kx_pI, kx_pL, kx_pR, kx_pA, kx_pV, kx_s1, kx_s2, kx_sl, kx_pre, kx_c2, kx_pl, kx_cmp, kx_oF, kx_eqN, kx_nil, kx_c1, kx_ft, kx_aI, kx_aL, kx_aR, kx_ln, Nat.reduceAdd, Option.toList, List.cons_append, List.nil_append]
    repeat (simp only [e1x, c1x, e2x, c2x, e3x, c3x, e4x, c4x, e5x, c5x, h143b, hc0]; try dsimp only [kx_wp, kx_step, kx_lI, kx_lL, kx_lA, kx_gl, kx_pI, kx_pL, kx_pR, kx_pA, kx_pV, kx_s1, kx_s2, kx_sl, kx_pre, kx_c2, kx_pl, kx_cmp, kx_oF, kx_eqN, kx_nil, kx_c1, kx_ft, kx_aI, kx_aL, kx_aR, kx_ln, Nat.reduceAdd, Option.toList, List.cons_append, List.nil_append])
    repeat' apply And.intro
    all_goals try (first | with_reducible assumption | (with_reducible refine ck_nzI ?_; simp; done) | (with_reducible refine ck_nzL ?_; simp; done) | (with_reducible refine vp_in_nI ?_ ?_ <;> first | omega | decide) | (with_reducible refine Nat.le_of_ble_eq_true ?_; rfl) | omega | (unfold vp_in; decide))
    · intro zc1141
      refine hB bL_law__1156 _ _ _ _ _ _ _ kL_law__1156 ?_
      dsimp only [bL_law__1156, kx_wp, kx_step, kx_lI, kx_lL, kx_lA, kx_gl, kx_pI, kx_pL, kx_pR, kx_pA, kx_pV, kx_s1, kx_s2, kx_sl, kx_pre, kx_c2, kx_pl, kx_cmp, kx_oF, kx_eqN, kx_nil, kx_c1, kx_ft, kx_aI, kx_aL, kx_aR, kx_ln, Nat.reduceAdd, Option.toList, List.cons_append, List.nil_append]
      repeat (simp only [e1x, c1x, e2x, c2x, e3x, c3x, e4x, c4x, e5x, c5x, h143b, hc0]; try dsimp only [kx_wp, kx_step, kx_lI, kx_lL, kx_lA, kx_gl, kx_pI, kx_pL, kx_pR, kx_pA, kx_pV, kx_s1, kx_s2, kx_sl, kx_pre, kx_c2, kx_pl, kx_cmp, kx_oF, kx_eqN, kx_nil, kx_c1, kx_ft, kx_aI, kx_aL, kx_aR, kx_ln, Nat.reduceAdd, Option.toList, List.cons_append, List.nil_append])
      repeat' apply And.intro
      all_goals try (first | with_reducible assumption | (with_reducible refine ck_nzI ?_; simp; done) | (with_reducible refine ck_nzL ?_; simp; done) | (with_reducible refine vp_in_nI ?_ ?_ <;> first | omega | decide) | (with_reducible refine Nat.le_of_ble_eq_true ?_; rfl) | omega | (unfold vp_in; decide))
      exact hgo P3 s2 S2 cl1 mi1 se1 bl1 go2 _ _ _ _ _ hI h34 h143b (by omega) (by omega) (by omega)
    · intro zc1141
      refine hB bL_law__1144 _ _ _ _ _ _ _ kL_law__1144 ?_
      dsimp only [bL_law__1144, kx_wp, kx_step, kx_lI, kx_lL, kx_lA, kx_gl, kx_pI, kx_pL, kx_pR, kx_pA, kx_pV, kx_s1, kx_s2, kx_sl, kx_pre, kx_c2, kx_pl, kx_cmp, kx_oF, kx_eqN, kx_nil, kx_c1, kx_ft, kx_aI, kx_aL, kx_aR, kx_ln, Nat.reduceAdd, Option.toList, List.cons_append, List.nil_append]
      repeat (simp only [e1x, c1x, e2x, c2x, e3x, c3x, e4x, c4x, e5x, c5x, h143b, hc0]; try dsimp only [kx_wp, kx_step, kx_lI, kx_lL, kx_lA, kx_gl, kx_pI, kx_pL, kx_pR, kx_pA, kx_pV, kx_s1, kx_s2, kx_sl, kx_pre, kx_c2, kx_pl, kx_cmp, kx_oF, kx_eqN, kx_nil, kx_c1, kx_ft, kx_aI, kx_aL, kx_aR, kx_ln, Nat.reduceAdd, Option.toList, List.cons_append, List.nil_append])
      repeat' apply And.intro
      all_goals try (first | with_reducible assumption | (with_reducible refine ck_nzI ?_; simp; done) | (with_reducible refine ck_nzL ?_; simp; done) | (with_reducible refine vp_in_nI ?_ ?_ <;> first | omega | decide) | (with_reducible refine Nat.le_of_ble_eq_true ?_; rfl) | omega | (unfold vp_in; decide))
      · intro zc1151
        refine hB bL_law__1156 _ _ _ _ _ _ _ kL_law__1156 ?_
        dsimp only [bL_law__1156, kx_wp, kx_step, kx_lI, kx_lL, kx_lA, kx_gl, kx_pI, kx_pL, kx_pR, kx_pA, kx_pV, kx_s1, kx_s2, kx_sl, kx_pre, kx_c2, kx_pl, kx_cmp, kx_oF, kx_eqN, kx_nil, kx_c1, kx_ft, kx_aI, kx_aL, kx_aR, kx_ln, Nat.reduceAdd, Option.toList, List.cons_append, List.nil_append]
        repeat (simp only [e1x, c1x, e2x, c2x, e3x, c3x, e4x, c4x, e5x, c5x, h143b, hc0]; try dsimp only [kx_wp, kx_step, kx_lI, kx_lL, kx_lA, kx_gl, kx_pI, kx_pL, kx_pR, kx_pA, kx_pV, kx_s1, kx_s2, kx_sl, kx_pre, kx_c2, kx_pl, kx_cmp, kx_oF, kx_eqN, kx_nil, kx_c1, kx_ft, kx_aI, kx_aL, kx_aR, kx_ln, Nat.reduceAdd, Option.toList, List.cons_append, List.nil_append])
        repeat' apply And.intro
        all_goals try (first | with_reducible assumption | (with_reducible refine ck_nzI ?_; simp; done) | (with_reducible refine ck_nzL ?_; simp; done) | (with_reducible refine vp_in_nI ?_ ?_ <;> first | omega | decide) | (with_reducible refine Nat.le_of_ble_eq_true ?_; rfl) | omega | (unfold vp_in; decide))
        exact hgo P3 s2 S2 cl1 mi1 se1 bl1 go2 _ _ _ _ _ hI h34 h143b (by omega) (by omega) (by omega)
      · intro zc1151
        first | exact absurd rfl zc1151 | exact absurd zc1151 (by decide) | exact absurd (by decide) zc1151 | (exfalso; first | exact zc1151 (by rw [hgo0 (Decidable.not_not.mp zc1141)]; exact lg_cmp_s _)) | (exfalso; simp_all; done)
  · intro zc1134
    first | exact absurd rfl zc1134 | exact absurd zc1134 (by decide) | exact absurd (by decide) zc1134 | (exfalso; first | exact zc1151 (by rw [hgo0 (Decidable.not_not.mp zc1141)]; exact lg_cmp_s _)) | (exfalso; simp_all; done)

set_option maxRecDepth 100000 in
set_option maxHeartbeats 4000000 in
theorem cj_trip_0 (l : Launch) (G : kx_G) (hst : l.stackTraces = false) {P : kx_P} {sz : Nat} {M : Nat → Int32} {A : Nat → Nat → Int32} {L : Nat → Nat → Int64} {cl mi se : Nat} {bl : Nat → Nat} {go : Nat → Int64} {Ln i k n : Nat} {xs : Nat → Int32} {o5 o6 o7 : Option Value} {g : kx_F} (h : cI P sz (M, A, L) cl mi se bl) (h3 : P 3 = kI 5 Ln xs) (h143 : P 143 = kL 1 go) (hi : i + 6 ≤ Ln) (hL : Ln ≤ 3072) (hk : k + 8 ≤ 601024) (hn : n + cro bl + 2206 ≤ 7293033) (hse : se ≤ 999) (hb : xs (i + 2) = 0) (hB : kx_rB kxL_L false cL_law_ 601024 7293033 (fun r _ _ => r = some (.int 1)) g) (hN : kx_rN l G RL cL_law_ 60 601024 7293033 g) (hW : kx_rW l G RL cL_law_ 60 601024 7293033 g) (hgo : cAf g Ln xs i se k n bl) : g 1159 [some (.ref 3), some (.ref 64), some (.ref 93), some (.ref 143), some (.int (nI i)), o5, o6, o7] [] P sz k n := by
  have e1x : nI i + 1 = nI (i + 1) := by rw [show (1 : Int32) = nI 1 from rfl, nI_add]
  have c1x : (nI (i + 1)).toNatClampNeg = i + 1 := nI_clamp (by omega)
  have e2x : nI i + 2 = nI (i + 2) := by rw [show (2 : Int32) = nI 2 from rfl, nI_add]
  have c2x : (nI (i + 2)).toNatClampNeg = i + 2 := nI_clamp (by omega)
  have e3x : nI i + 3 = nI (i + 3) := by rw [show (3 : Int32) = nI 3 from rfl, nI_add]
  have c3x : (nI (i + 3)).toNatClampNeg = i + 3 := nI_clamp (by omega)
  have e4x : nI i + 4 = nI (i + 4) := by rw [show (4 : Int32) = nI 4 from rfl, nI_add]
  have c4x : (nI (i + 4)).toNatClampNeg = i + 4 := nI_clamp (by omega)
  have e5x : nI i + 5 = nI (i + 5) := by rw [show (5 : Int32) = nI 5 from rfl, nI_add]
  have c5x : (nI (i + 5)).toNatClampNeg = i + 5 := nI_clamp (by omega)
  have hc0 : (0 : Int32).toNatClampNeg = 0 := rfl
  obtain ⟨f64, h64⟩ := cI_k64 h
  have hs := cs_trip l G hst h (xs (i + 1)) 0 (by decide)
  obtain ⟨k9, dw, dm, mc, ms, cl1, mi1, se1, bl1, Q, q1, q2, q3, q4, q5, hw, hmo⟩ := cSs.s (yw := sL_trip) (hh := hL_trip) (Aw := [.ref 64, .int (xs (i + 1)), .int 0, .ref 143]) h h143 hs (fun d mc ms Po => cw_trip_t l G h64) (fun p hp => by
    simp only [List.mem_cons, List.not_mem_nil, or_false] at hp
    rcases hp with rfl
    · exact ⟨by decide, fun d => cw_trip_x0 l G h64⟩)
  refine hB bL_law__1159 _ _ _ _ _ _ _ kL_law__1159 ?_
  dsimp only [bL_law__1159, kx_wp, kx_step, kx_lI, kx_lL, kx_lA, kx_gl, kx_pI, kx_pL, kx_pR, kx_pA, kx_pV, kx_s1, kx_s2, kx_sl, kx_pre, kx_c2, kx_pl, kx_cmp, kx_oF, kx_eqN, kx_nil, kx_c1, kx_ft, kx_aI, kx_aL, kx_aR, kx_ln, Nat.reduceAdd, Option.toList, List.cons_append, List.nil_append]
  repeat (simp only [e1x, c1x, e2x, c2x, e3x, c3x, e4x, c4x, e5x, c5x, h3]; try dsimp only [kx_wp, kx_step, kx_lI, kx_lL, kx_lA, kx_gl, kx_pI, kx_pL, kx_pR, kx_pA, kx_pV, kx_s1, kx_s2, kx_sl, kx_pre, kx_c2, kx_pl, kx_cmp, kx_oF, kx_eqN, kx_nil, kx_c1, kx_ft, kx_aI, kx_aL, kx_aR, kx_ln, Nat.reduceAdd, Option.toList, List.cons_append, List.nil_append])
  repeat' apply And.intro
  all_goals try (first | with_reducible assumption | (with_reducible refine ck_nzI ?_; simp; done) | (with_reducible refine ck_nzL ?_; simp; done) | (with_reducible refine vp_in_nI ?_ ?_ <;> first | omega | decide) | (with_reducible refine Nat.le_of_ble_eq_true ?_; rfl) | omega | (unfold vp_in; decide))
  · intro zc1172
    refine hB bL_law__1179 _ _ _ _ _ _ _ kL_law__1179 ?_
    dsimp only [bL_law__1179, kx_wp, kx_step, kx_lI, kx_lL, kx_lA, kx_gl, kx_pI, kx_pL, kx_pR, kx_pA, kx_pV, kx_s1, kx_s2, kx_sl, kx_pre, kx_c2, kx_pl, kx_cmp, kx_oF, kx_eqN, kx_nil, kx_c1, kx_ft, kx_aI, kx_aL, kx_aR, kx_ln, Nat.reduceAdd, Option.toList, List.cons_append, List.nil_append]
    repeat (simp only [e1x, c1x, e2x, c2x, e3x, c3x, e4x, c4x, e5x, c5x, h3]; try dsimp only [kx_wp, kx_step, kx_lI, kx_lL, kx_lA, kx_gl, kx_pI, kx_pL, kx_pR, kx_pA, kx_pV, kx_s1, kx_s2, kx_sl, kx_pre, kx_c2, kx_pl, kx_cmp, kx_oF, kx_eqN, kx_nil, kx_c1, kx_ft, kx_aI, kx_aL, kx_aR, kx_ln, Nat.reduceAdd, Option.toList, List.cons_append, List.nil_append])
    repeat' apply And.intro
    all_goals try (first | with_reducible assumption | (with_reducible refine ck_nzI ?_; simp; done) | (with_reducible refine ck_nzL ?_; simp; done) | (with_reducible refine vp_in_nI ?_ ?_ <;> first | omega | decide) | (with_reducible refine Nat.le_of_ble_eq_true ?_; rfl) | omega | (unfold vp_in; decide))
    refine hB bL_law__1180 _ _ _ _ _ _ _ kL_law__1180 ?_
    dsimp only [bL_law__1180, kx_wp, kx_step, kx_lI, kx_lL, kx_lA, kx_gl, kx_pI, kx_pL, kx_pR, kx_pA, kx_pV, kx_s1, kx_s2, kx_sl, kx_pre, kx_c2, kx_pl, kx_cmp, kx_oF, kx_eqN, kx_nil, kx_c1, kx_ft, kx_aI, kx_aL, kx_aR, kx_ln, Nat.reduceAdd, Option.toList, List.cons_append, List.nil_append]
    repeat (simp only [e1x, c1x, e2x, c2x, e3x, c3x, e4x, c4x, e5x, c5x, h3]; try dsimp only [kx_wp, kx_step, kx_lI, kx_lL, kx_lA, kx_gl, kx_pI, kx_pL, kx_pR, kx_pA, kx_pV, kx_s1, kx_s2, kx_sl, kx_pre, kx_c2, kx_pl, kx_cmp, kx_oF, kx_eqN, kx_nil, kx_c1, kx_ft, kx_aI, kx_aL, kx_aR, kx_ln, Nat.reduceAdd, Option.toList, List.cons_append, List.nil_append])
    repeat' apply And.intro
    all_goals try (first | with_reducible assumption | (with_reducible refine ck_nzI ?_; simp; done) | (with_reducible refine ck_nzL ?_; simp; done) | (with_reducible refine vp_in_nI ?_ ?_ <;> first | omega | decide) | (with_reducible refine Nat.le_of_ble_eq_true ?_; rfl) | omega | (unfold vp_in; decide))
    refine hW 177 _ _ _ _ _ _ _ _ _ _ _ _ _ _ _ _ lL_177 hw rfl rfl (Nat.le_of_ble_eq_true rfl) (by omega) (by decide) (by omega) (by omega) dL_law__1181 ?_
    rintro r2 P2 s2 ⟨e2, hQ⟩
    rw [e2]
    obtain ⟨⟨fm, h93⟩, h33, hM⟩ := hmo P2 s2 hQ
    have h33 := h33.trans h3
    dsimp only [Option.toList, List.cons_append, List.nil_append]
    refine hB bL_law__1184 _ _ _ _ _ _ _ kL_law__1184 ?_
    dsimp only [bL_law__1184, kx_wp, kx_step, kx_lI, kx_lL, kx_lA, kx_gl, kx_pI, kx_pL, kx_pR, kx_pA, kx_pV, kx_s1, kx_s2, kx_sl, kx_pre, kx_c2, kx_pl, kx_cmp, kx_oF, kx_eqN, kx_nil, kx_c1, kx_ft, kx_aI, kx_aL, kx_aR, kx_ln, Nat.reduceAdd, Option.toList, List.cons_append, List.nil_append]
    repeat (simp only [e1x, c1x, e2x, c2x, e3x, c3x, e4x, c4x, e5x, c5x, h33]; try dsimp only [kx_wp, kx_step, kx_lI, kx_lL, kx_lA, kx_gl, kx_pI, kx_pL, kx_pR, kx_pA, kx_pV, kx_s1, kx_s2, kx_sl, kx_pre, kx_c2, kx_pl, kx_cmp, kx_oF, kx_eqN, kx_nil, kx_c1, kx_ft, kx_aI, kx_aL, kx_aR, kx_ln, Nat.reduceAdd, Option.toList, List.cons_append, List.nil_append])
    repeat' apply And.intro
    all_goals try (first | with_reducible assumption | (with_reducible refine ck_nzI ?_; simp; done) | (with_reducible refine ck_nzL ?_; simp; done) | (with_reducible refine vp_in_nI ?_ ?_ <;> first | omega | decide) | (with_reducible refine Nat.le_of_ble_eq_true ?_; rfl) | omega | (unfold vp_in; decide))
    · intro zc1199
      refine hB bL_law__1206 _ _ _ _ _ _ _ kL_law__1206 ?_
      dsimp only [bL_law__1206, kx_wp, kx_step, kx_lI, kx_lL, kx_lA, kx_gl, kx_pI, kx_pL, kx_pR, kx_pA, kx_pV, kx_s1, kx_s2, kx_sl, kx_pre, kx_c2, kx_pl, kx_cmp, kx_oF, kx_eqN, kx_nil, kx_c1, kx_ft, kx_aI, kx_aL, kx_aR, kx_ln, Nat.reduceAdd, Option.toList, List.cons_append, List.nil_append]
      repeat (simp only [e1x, c1x, e2x, c2x, e3x, c3x, e4x, c4x, e5x, c5x, h33]; try dsimp only [kx_wp, kx_step, kx_lI, kx_lL, kx_lA, kx_gl, kx_pI, kx_pL, kx_pR, kx_pA, kx_pV, kx_s1, kx_s2, kx_sl, kx_pre, kx_c2, kx_pl, kx_cmp, kx_oF, kx_eqN, kx_nil, kx_c1, kx_ft, kx_aI, kx_aL, kx_aR, kx_ln, Nat.reduceAdd, Option.toList, List.cons_append, List.nil_append])
      repeat' apply And.intro
      all_goals try (first | with_reducible assumption | (with_reducible refine ck_nzI ?_; simp; done) | (with_reducible refine ck_nzL ?_; simp; done) | (with_reducible refine vp_in_nI ?_ ?_ <;> first | omega | decide) | (with_reducible refine Nat.le_of_ble_eq_true ?_; rfl) | omega | (unfold vp_in; decide))
      refine hN.1 180 _ _ _ _ _ _ _ 11 _ _ _ _ _ _ _ _ _ _ lL_180 hM ⟨by decide, rfl⟩ h93 rfl rfl (Nat.le_of_ble_eq_true rfl) (by omega) (by decide) (by omega) (by omega) dL_law__1207 ?_
      rintro r3 P3 s3 ⟨e3, v, S2, go2, e4, hT, hk0, hI, h34, h143b, hgo0⟩
      obtain ⟨b9, e5⟩ := hT.2 (by decide)
      subst e5
      rw [e3, e4]
      have h34 := h34.trans h3
      have h93b := cI_93 hI
      have hth := cI_th l G hI
      rw [hk0] at hth
      dsimp only [Option.toList, List.cons_append, List.nil_append]
      refine hB bL_law__1210 _ _ _ _ _ _ _ kL_law__1210 ?_
      dsimp only [bL_law__1210, kx_wp, kx_step, kx_lI, kx_lL, kx_lA, kx_gl, kx_pI, kx_pL, kx_pR, kx_pA, kx_pV, kx_s1, kx_s2, kx_sl, kx_pre, kx_c2, kx_pl, kx_cmp, kx_oF, kx_eqN, kx_nil, kx_c1, kx_ft, kx_aI, kx_aL, kx_aR, kx_ln, Nat.reduceAdd, Option.toList, List.cons_append, List.nil_append]
      repeat (simp only [e1x, c1x, e2x, c2x, e3x, c3x, e4x, c4x, e5x, c5x, h143b, hc0]; try dsimp only [kx_wp, kx_step, kx_lI, kx_lL, kx_lA, kx_gl, kx_pI, kx_pL, kx_pR, kx_pA, kx_pV, kx_s1, kx_s2, kx_sl, kx_pre, kx_c2, kx_pl, kx_cmp, kx_oF, kx_eqN, kx_nil, kx_c1, kx_ft, kx_aI, kx_aL, kx_aR, kx_ln, Nat.reduceAdd, Option.toList, List.cons_append, List.nil_append])
      repeat' apply And.intro
      all_goals try (first | with_reducible assumption | (with_reducible refine ck_nzI ?_; simp; done) | (with_reducible refine ck_nzL ?_; simp; done) | (with_reducible refine vp_in_nI ?_ ?_ <;> first | omega | decide) | (with_reducible refine Nat.le_of_ble_eq_true ?_; rfl) | omega | (unfold vp_in; decide))
      refine hN.1 120 _ _ _ _ _ _ _ 11 _ _ _ _ _ _ _ _ _ _ lL_120 hth.n ⟨by decide, rfl⟩ h93b rfl rfl (Nat.le_of_ble_eq_true rfl) (by omega) (by decide) (by omega) (by omega) dL_law__1213 ?_
      rintro r4 P4 s4 ⟨e6, e7, e8⟩
      rw [e6, e7, e8]
      dsimp only [Option.toList, List.cons_append, List.nil_append]
      refine hB bL_law__1216 _ _ _ _ _ _ _ kL_law__1216 ?_
      dsimp only [bL_law__1216, kx_wp, kx_step, kx_lI, kx_lL, kx_lA, kx_gl, kx_pI, kx_pL, kx_pR, kx_pA, kx_pV, kx_s1, kx_s2, kx_sl, kx_pre, kx_c2, kx_pl, kx_cmp, kx_oF, kx_eqN, kx_nil, kx_c1, kx_ft, kx_aI, kx_aL, kx_aR, kx_ln, Nat.reduceAdd, Option.toList, List.cons_append, List.nil_append]
      repeat (simp only [e1x, c1x, e2x, c2x, e3x, c3x, e4x, c4x, e5x, c5x, h143b, hc0]; try dsimp only [kx_wp, kx_step, kx_lI, kx_lL, kx_lA, kx_gl, kx_pI, kx_pL, kx_pR, kx_pA, kx_pV, kx_s1, kx_s2, kx_sl, kx_pre, kx_c2, kx_pl, kx_cmp, kx_oF, kx_eqN, kx_nil, kx_c1, kx_ft, kx_aI, kx_aL, kx_aR, kx_ln, Nat.reduceAdd, Option.toList, List.cons_append, List.nil_append])
      repeat' apply And.intro
      all_goals try (first | with_reducible assumption | (with_reducible refine ck_nzI ?_; simp; done) | (with_reducible refine ck_nzL ?_; simp; done) | (with_reducible refine vp_in_nI ?_ ?_ <;> first | omega | decide) | (with_reducible refine Nat.le_of_ble_eq_true ?_; rfl) | omega | (unfold vp_in; decide))
      · intro zc1218
        refine hB bL_law__1223 _ _ _ _ _ _ _ kL_law__1223 ?_
        dsimp only [bL_law__1223, kx_wp, kx_step, kx_lI, kx_lL, kx_lA, kx_gl, kx_pI, kx_pL, kx_pR, kx_pA, kx_pV, kx_s1, kx_s2, kx_sl, kx_pre, kx_c2, kx_pl, kx_cmp, kx_oF, kx_eqN, kx_nil, kx_c1, kx_ft, kx_aI, kx_aL, kx_aR, kx_ln, Nat.reduceAdd, Option.toList, List.cons_append, List.nil_append]
        repeat (simp only [e1x, c1x, e2x, c2x, e3x, c3x, e4x, c4x, e5x, c5x, h143b, hc0]; try dsimp only [kx_wp, kx_step, kx_lI, kx_lL, kx_lA, kx_gl, kx_pI, kx_pL, kx_pR, kx_pA, kx_pV, kx_s1, kx_s2, kx_sl, kx_pre, kx_c2, kx_pl, kx_cmp, kx_oF, kx_eqN, kx_nil, kx_c1, kx_ft, kx_aI, kx_aL, kx_aR, kx_ln, Nat.reduceAdd, Option.toList, List.cons_append, List.nil_append])
        repeat' apply And.intro
        all_goals try (first | with_reducible assumption | (with_reducible refine ck_nzI ?_; simp; done) | (with_reducible refine ck_nzL ?_; simp; done) | (with_reducible refine vp_in_nI ?_ ?_ <;> first | omega | decide) | (with_reducible refine Nat.le_of_ble_eq_true ?_; rfl) | omega | (unfold vp_in; decide))
        · intro zc1225
          refine hB bL_law__1240 _ _ _ _ _ _ _ kL_law__1240 ?_
          dsimp only [bL_law__1240, kx_wp, kx_step, kx_lI, kx_lL, kx_lA, kx_gl, kx_pI, kx_pL, kx_pR, kx_pA, kx_pV, kx_s1, kx_s2, kx_sl, kx_pre, kx_c2, kx_pl, kx_cmp, kx_oF, kx_eqN, kx_nil, kx_c1, kx_ft, kx_aI, kx_aL, kx_aR, kx_ln, Nat.reduceAdd, Option.toList, List.cons_append, List.nil_append]
          repeat (simp only [e1x, c1x, e2x, c2x, e3x, c3x, e4x, c4x, e5x, c5x, h143b, hc0]; try dsimp only [kx_wp, kx_step, kx_lI, kx_lL, kx_lA, kx_gl, kx_pI, kx_pL, kx_pR, kx_pA, kx_pV, kx_s1, kx_s2, kx_sl, kx_pre, kx_c2, kx_pl, kx_cmp, kx_oF, kx_eqN, kx_nil, kx_c1, kx_ft, kx_aI, kx_aL, kx_aR, kx_ln, Nat.reduceAdd, Option.toList, List.cons_append, List.nil_append])
          repeat' apply And.intro
          all_goals try (first | with_reducible assumption | (with_reducible refine ck_nzI ?_; simp; done) | (with_reducible refine ck_nzL ?_; simp; done) | (with_reducible refine vp_in_nI ?_ ?_ <;> first | omega | decide) | (with_reducible refine Nat.le_of_ble_eq_true ?_; rfl) | omega | (unfold vp_in; decide))
          exact hgo P3 s2 S2 cl1 mi1 se1 bl1 go2 _ _ _ _ _ hI h34 h143b (by omega) (by omega) (by omega)
        · intro zc1225
          refine hB bL_law__1228 _ _ _ _ _ _ _ kL_law__1228 ?_
          dsimp only [bL_law__1228, kx_wp, kx_step, kx_lI, kx_lL, kx_lA, kx_gl, kx_pI, kx_pL, kx_pR, kx_pA, kx_pV, kx_s1, kx_s2, kx_sl, kx_pre, kx_c2, kx_pl, kx_cmp, kx_oF, kx_eqN, kx_nil, kx_c1, kx_ft, kx_aI, kx_aL, kx_aR, kx_ln, Nat.reduceAdd, Option.toList, List.cons_append, List.nil_append]
          repeat (simp only [e1x, c1x, e2x, c2x, e3x, c3x, e4x, c4x, e5x, c5x, h143b, hc0]; try dsimp only [kx_wp, kx_step, kx_lI, kx_lL, kx_lA, kx_gl, kx_pI, kx_pL, kx_pR, kx_pA, kx_pV, kx_s1, kx_s2, kx_sl, kx_pre, kx_c2, kx_pl, kx_cmp, kx_oF, kx_eqN, kx_nil, kx_c1, kx_ft, kx_aI, kx_aL, kx_aR, kx_ln, Nat.reduceAdd, Option.toList, List.cons_append, List.nil_append])
          repeat' apply And.intro
          all_goals try (first | with_reducible assumption | (with_reducible refine ck_nzI ?_; simp; done) | (with_reducible refine ck_nzL ?_; simp; done) | (with_reducible refine vp_in_nI ?_ ?_ <;> first | omega | decide) | (with_reducible refine Nat.le_of_ble_eq_true ?_; rfl) | omega | (unfold vp_in; decide))
          · intro zc1235
            refine hB bL_law__1240 _ _ _ _ _ _ _ kL_law__1240 ?_
            dsimp only [bL_law__1240, kx_wp, kx_step, kx_lI, kx_lL, kx_lA, kx_gl, kx_pI, kx_pL, kx_pR, kx_pA, kx_pV, kx_s1, kx_s2, kx_sl, kx_pre, kx_c2, kx_pl, kx_cmp, kx_oF, kx_eqN, kx_nil, kx_c1, kx_ft, kx_aI, kx_aL, kx_aR, kx_ln, Nat.reduceAdd, Option.toList, List.cons_append, List.nil_append]
            repeat (simp only [e1x, c1x, e2x, c2x, e3x, c3x, e4x, c4x, e5x, c5x, h143b, hc0]; try dsimp only [kx_wp, kx_step, kx_lI, kx_lL, kx_lA, kx_gl, kx_pI, kx_pL, kx_pR, kx_pA, kx_pV, kx_s1, kx_s2, kx_sl, kx_pre, kx_c2, kx_pl, kx_cmp, kx_oF, kx_eqN, kx_nil, kx_c1, kx_ft, kx_aI, kx_aL, kx_aR, kx_ln, Nat.reduceAdd, Option.toList, List.cons_append, List.nil_append])
            repeat' apply And.intro
            all_goals try (first | with_reducible assumption | (with_reducible refine ck_nzI ?_; simp; done) | (with_reducible refine ck_nzL ?_; simp; done) | (with_reducible refine vp_in_nI ?_ ?_ <;> first | omega | decide) | (with_reducible refine Nat.le_of_ble_eq_true ?_; rfl) | omega | (unfold vp_in; decide))
            exact hgo P3 s2 S2 cl1 mi1 se1 bl1 go2 _ _ _ _ _ hI h34 h143b (by omega) (by omega) (by omega)
          · intro zc1235
            first | exact absurd rfl zc1235 | exact absurd zc1235 (by decide) | exact absurd (by decide) zc1235 | (exfalso; first | exact zc1172 hb | exact zc1199 hb | exact zc1235 (by rw [hgo0 (Decidable.not_not.mp zc1225)]; exact lg_cmp_s _)) | (exfalso; simp_all; done)
      · intro zc1218
        first | exact absurd rfl zc1218 | exact absurd zc1218 (by decide) | exact absurd (by decide) zc1218 | (exfalso; first | exact zc1172 hb | exact zc1199 hb | exact zc1235 (by rw [hgo0 (Decidable.not_not.mp zc1225)]; exact lg_cmp_s _)) | (exfalso; simp_all; done)
    · intro zc1199
      first | exact absurd rfl zc1199 | exact absurd zc1199 (by decide) | exact absurd (by decide) zc1199 | (exfalso; first | exact zc1172 hb | exact zc1199 hb | exact zc1235 (by rw [hgo0 (Decidable.not_not.mp zc1225)]; exact lg_cmp_s _)) | (exfalso; simp_all; done)
  · intro zc1172
    first | exact absurd rfl zc1172 | exact absurd zc1172 (by decide) | exact absurd (by decide) zc1172 | (exfalso; first | exact zc1172 hb | exact zc1199 hb | exact zc1235 (by rw [hgo0 (Decidable.not_not.mp zc1225)]; exact lg_cmp_s _)) | (exfalso; simp_all; done)

set_option maxRecDepth 100000 in
set_option maxHeartbeats 4000000 in
theorem cj_trip_1 (l : Launch) (G : kx_G) (hst : l.stackTraces = false) {P : kx_P} {sz : Nat} {M : Nat → Int32} {A : Nat → Nat → Int32} {L : Nat → Nat → Int64} {cl mi se : Nat} {bl : Nat → Nat} {go : Nat → Int64} {Ln i k n : Nat} {xs : Nat → Int32} {o5 o6 o7 : Option Value} {g : kx_F} (h : cI P sz (M, A, L) cl mi se bl) (h3 : P 3 = kI 5 Ln xs) (h143 : P 143 = kL 1 go) (hi : i + 6 ≤ Ln) (hL : Ln ≤ 3072) (hk : k + 8 ≤ 601024) (hn : n + cro bl + 2206 ≤ 7293033) (hse : se ≤ 999) (hb : ¬ xs (i + 2) = 0) (hB : kx_rB kxL_L false cL_law_ 601024 7293033 (fun r _ _ => r = some (.int 1)) g) (hN : kx_rN l G RL cL_law_ 60 601024 7293033 g) (hW : kx_rW l G RL cL_law_ 60 601024 7293033 g) (hgo : cAf g Ln xs i se k n bl) : g 1159 [some (.ref 3), some (.ref 64), some (.ref 93), some (.ref 143), some (.int (nI i)), o5, o6, o7] [] P sz k n := by
  have e1x : nI i + 1 = nI (i + 1) := by rw [show (1 : Int32) = nI 1 from rfl, nI_add]
  have c1x : (nI (i + 1)).toNatClampNeg = i + 1 := nI_clamp (by omega)
  have e2x : nI i + 2 = nI (i + 2) := by rw [show (2 : Int32) = nI 2 from rfl, nI_add]
  have c2x : (nI (i + 2)).toNatClampNeg = i + 2 := nI_clamp (by omega)
  have e3x : nI i + 3 = nI (i + 3) := by rw [show (3 : Int32) = nI 3 from rfl, nI_add]
  have c3x : (nI (i + 3)).toNatClampNeg = i + 3 := nI_clamp (by omega)
  have e4x : nI i + 4 = nI (i + 4) := by rw [show (4 : Int32) = nI 4 from rfl, nI_add]
  have c4x : (nI (i + 4)).toNatClampNeg = i + 4 := nI_clamp (by omega)
  have e5x : nI i + 5 = nI (i + 5) := by rw [show (5 : Int32) = nI 5 from rfl, nI_add]
  have c5x : (nI (i + 5)).toNatClampNeg = i + 5 := nI_clamp (by omega)
  have hc0 : (0 : Int32).toNatClampNeg = 0 := rfl
  obtain ⟨f64, h64⟩ := cI_k64 h
  have hs := cs_trip l G hst h (xs (i + 1)) 1 (by decide)
  obtain ⟨k9, dw, dm, mc, ms, cl1, mi1, se1, bl1, Q, q1, q2, q3, q4, q5, hw, hmo⟩ := cSs.s (yw := sL_trip) (hh := hL_trip) (Aw := [.ref 64, .int (xs (i + 1)), .int 1, .ref 143]) h h143 hs (fun d mc ms Po => cw_trip_t l G h64) (fun p hp => by
    simp only [List.mem_cons, List.not_mem_nil, or_false] at hp
    rcases hp with rfl
    · exact ⟨by decide, fun d => cw_trip_x0 l G h64⟩)
  refine hB bL_law__1159 _ _ _ _ _ _ _ kL_law__1159 ?_
  dsimp only [bL_law__1159, kx_wp, kx_step, kx_lI, kx_lL, kx_lA, kx_gl, kx_pI, kx_pL, kx_pR, kx_pA, kx_pV, kx_s1, kx_s2, kx_sl, kx_pre, kx_c2, kx_pl, kx_cmp, kx_oF, kx_eqN, kx_nil, kx_c1, kx_ft, kx_aI, kx_aL, kx_aR, kx_ln, Nat.reduceAdd, Option.toList, List.cons_append, List.nil_append]
  repeat (simp only [e1x, c1x, e2x, c2x, e3x, c3x, e4x, c4x, e5x, c5x, h3]; try dsimp only [kx_wp, kx_step, kx_lI, kx_lL, kx_lA, kx_gl, kx_pI, kx_pL, kx_pR, kx_pA, kx_pV, kx_s1, kx_s2, kx_sl, kx_pre, kx_c2, kx_pl, kx_cmp, kx_oF, kx_eqN, kx_nil, kx_c1, kx_ft, kx_aI, kx_aL, kx_aR, kx_ln, Nat.reduceAdd, Option.toList, List.cons_append, List.nil_append])
  repeat' apply And.intro
  all_goals try (first | with_reducible assumption | (with_reducible refine ck_nzI ?_; simp; done) | (with_reducible refine ck_nzL ?_; simp; done) | (with_reducible refine vp_in_nI ?_ ?_ <;> first | omega | decide) | (with_reducible refine Nat.le_of_ble_eq_true ?_; rfl) | omega | (unfold vp_in; decide))
  · intro zc1172
    first | exact absurd rfl zc1172 | exact absurd zc1172 (by decide) | exact absurd (by decide) zc1172 | (exfalso; first | exact hb zc1172 | exact hb zc1199 | exact zc1235 (by rw [hgo0 (Decidable.not_not.mp zc1225)]; exact lg_cmp_s _)) | (exfalso; simp_all; done)
  · intro zc1172
    refine hB bL_law__1175 _ _ _ _ _ _ _ kL_law__1175 ?_
    dsimp only [bL_law__1175, kx_wp, kx_step, kx_lI, kx_lL, kx_lA, kx_gl, kx_pI, kx_pL, kx_pR, kx_pA, kx_pV, kx_s1, kx_s2, kx_sl, kx_pre, kx_c2, kx_pl, kx_cmp, kx_oF, kx_eqN, kx_nil, kx_c1, kx_ft, kx_aI, kx_aL, kx_aR, kx_ln, Nat.reduceAdd, Option.toList, List.cons_append, List.nil_append]
    repeat (simp only [e1x, c1x, e2x, c2x, e3x, c3x, e4x, c4x, e5x, c5x, h3]; try dsimp only [kx_wp, kx_step, kx_lI, kx_lL, kx_lA, kx_gl, kx_pI, kx_pL, kx_pR, kx_pA, kx_pV, kx_s1, kx_s2, kx_sl, kx_pre, kx_c2, kx_pl, kx_cmp, kx_oF, kx_eqN, kx_nil, kx_c1, kx_ft, kx_aI, kx_aL, kx_aR, kx_ln, Nat.reduceAdd, Option.toList, List.cons_append, List.nil_append])
    repeat' apply And.intro
    all_goals try (first | with_reducible assumption | (with_reducible refine ck_nzI ?_; simp; done) | (with_reducible refine ck_nzL ?_; simp; done) | (with_reducible refine vp_in_nI ?_ ?_ <;> first | omega | decide) | (with_reducible refine Nat.le_of_ble_eq_true ?_; rfl) | omega | (unfold vp_in; decide))
    refine hB bL_law__1180 _ _ _ _ _ _ _ kL_law__1180 ?_
    dsimp only [bL_law__1180, kx_wp, kx_step, kx_lI, kx_lL, kx_lA, kx_gl, kx_pI, kx_pL, kx_pR, kx_pA, kx_pV, kx_s1, kx_s2, kx_sl, kx_pre, kx_c2, kx_pl, kx_cmp, kx_oF, kx_eqN, kx_nil, kx_c1, kx_ft, kx_aI, kx_aL, kx_aR, kx_ln, Nat.reduceAdd, Option.toList, List.cons_append, List.nil_append]
    repeat (simp only [e1x, c1x, e2x, c2x, e3x, c3x, e4x, c4x, e5x, c5x, h3]; try dsimp only [kx_wp, kx_step, kx_lI, kx_lL, kx_lA, kx_gl, kx_pI, kx_pL, kx_pR, kx_pA, kx_pV, kx_s1, kx_s2, kx_sl, kx_pre, kx_c2, kx_pl, kx_cmp, kx_oF, kx_eqN, kx_nil, kx_c1, kx_ft, kx_aI, kx_aL, kx_aR, kx_ln, Nat.reduceAdd, Option.toList, List.cons_append, List.nil_append])
    repeat' apply And.intro
    all_goals try (first | with_reducible assumption | (with_reducible refine ck_nzI ?_; simp; done) | (with_reducible refine ck_nzL ?_; simp; done) | (with_reducible refine vp_in_nI ?_ ?_ <;> first | omega | decide) | (with_reducible refine Nat.le_of_ble_eq_true ?_; rfl) | omega | (unfold vp_in; decide))
    refine hW 177 _ _ _ _ _ _ _ _ _ _ _ _ _ _ _ _ lL_177 hw rfl rfl (Nat.le_of_ble_eq_true rfl) (by omega) (by decide) (by omega) (by omega) dL_law__1181 ?_
    rintro r2 P2 s2 ⟨e2, hQ⟩
    rw [e2]
    obtain ⟨⟨fm, h93⟩, h33, hM⟩ := hmo P2 s2 hQ
    have h33 := h33.trans h3
    dsimp only [Option.toList, List.cons_append, List.nil_append]
    refine hB bL_law__1184 _ _ _ _ _ _ _ kL_law__1184 ?_
    dsimp only [bL_law__1184, kx_wp, kx_step, kx_lI, kx_lL, kx_lA, kx_gl, kx_pI, kx_pL, kx_pR, kx_pA, kx_pV, kx_s1, kx_s2, kx_sl, kx_pre, kx_c2, kx_pl, kx_cmp, kx_oF, kx_eqN, kx_nil, kx_c1, kx_ft, kx_aI, kx_aL, kx_aR, kx_ln, Nat.reduceAdd, Option.toList, List.cons_append, List.nil_append]
    repeat (simp only [e1x, c1x, e2x, c2x, e3x, c3x, e4x, c4x, e5x, c5x, h33]; try dsimp only [kx_wp, kx_step, kx_lI, kx_lL, kx_lA, kx_gl, kx_pI, kx_pL, kx_pR, kx_pA, kx_pV, kx_s1, kx_s2, kx_sl, kx_pre, kx_c2, kx_pl, kx_cmp, kx_oF, kx_eqN, kx_nil, kx_c1, kx_ft, kx_aI, kx_aL, kx_aR, kx_ln, Nat.reduceAdd, Option.toList, List.cons_append, List.nil_append])
    repeat' apply And.intro
    all_goals try (first | with_reducible assumption | (with_reducible refine ck_nzI ?_; simp; done) | (with_reducible refine ck_nzL ?_; simp; done) | (with_reducible refine vp_in_nI ?_ ?_ <;> first | omega | decide) | (with_reducible refine Nat.le_of_ble_eq_true ?_; rfl) | omega | (unfold vp_in; decide))
    · intro zc1199
      first | exact absurd rfl zc1199 | exact absurd zc1199 (by decide) | exact absurd (by decide) zc1199 | (exfalso; first | exact hb zc1172 | exact hb zc1199 | exact zc1235 (by rw [hgo0 (Decidable.not_not.mp zc1225)]; exact lg_cmp_s _)) | (exfalso; simp_all; done)
    · intro zc1199
      refine hB bL_law__1202 _ _ _ _ _ _ _ kL_law__1202 ?_
      dsimp only [bL_law__1202, kx_wp, kx_step, kx_lI, kx_lL, kx_lA, kx_gl, kx_pI, kx_pL, kx_pR, kx_pA, kx_pV, kx_s1, kx_s2, kx_sl, kx_pre, kx_c2, kx_pl, kx_cmp, kx_oF, kx_eqN, kx_nil, kx_c1, kx_ft, kx_aI, kx_aL, kx_aR, kx_ln, Nat.reduceAdd, Option.toList, List.cons_append, List.nil_append]
      repeat (simp only [e1x, c1x, e2x, c2x, e3x, c3x, e4x, c4x, e5x, c5x, h33]; try dsimp only [kx_wp, kx_step, kx_lI, kx_lL, kx_lA, kx_gl, kx_pI, kx_pL, kx_pR, kx_pA, kx_pV, kx_s1, kx_s2, kx_sl, kx_pre, kx_c2, kx_pl, kx_cmp, kx_oF, kx_eqN, kx_nil, kx_c1, kx_ft, kx_aI, kx_aL, kx_aR, kx_ln, Nat.reduceAdd, Option.toList, List.cons_append, List.nil_append])
      repeat' apply And.intro
      all_goals try (first | with_reducible assumption | (with_reducible refine ck_nzI ?_; simp; done) | (with_reducible refine ck_nzL ?_; simp; done) | (with_reducible refine vp_in_nI ?_ ?_ <;> first | omega | decide) | (with_reducible refine Nat.le_of_ble_eq_true ?_; rfl) | omega | (unfold vp_in; decide))
      refine hN.1 180 _ _ _ _ _ _ _ 11 _ _ _ _ _ _ _ _ _ _ lL_180 hM ⟨by decide, rfl⟩ h93 rfl rfl (Nat.le_of_ble_eq_true rfl) (by omega) (by decide) (by omega) (by omega) dL_law__1207 ?_
      rintro r3 P3 s3 ⟨e3, v, S2, go2, e4, hT, hk0, hI, h34, h143b, hgo0⟩
      obtain ⟨b9, e5⟩ := hT.2 (by decide)
      subst e5
      rw [e3, e4]
      have h34 := h34.trans h3
      have h93b := cI_93 hI
      have hth := cI_th l G hI
      rw [hk0] at hth
      dsimp only [Option.toList, List.cons_append, List.nil_append]
      refine hB bL_law__1210 _ _ _ _ _ _ _ kL_law__1210 ?_
      dsimp only [bL_law__1210, kx_wp, kx_step, kx_lI, kx_lL, kx_lA, kx_gl, kx_pI, kx_pL, kx_pR, kx_pA, kx_pV, kx_s1, kx_s2, kx_sl, kx_pre, kx_c2, kx_pl, kx_cmp, kx_oF, kx_eqN, kx_nil, kx_c1, kx_ft, kx_aI, kx_aL, kx_aR, kx_ln, Nat.reduceAdd, Option.toList, List.cons_append, List.nil_append]
      repeat (simp only [e1x, c1x, e2x, c2x, e3x, c3x, e4x, c4x, e5x, c5x, h143b, hc0]; try dsimp only [kx_wp, kx_step, kx_lI, kx_lL, kx_lA, kx_gl, kx_pI, kx_pL, kx_pR, kx_pA, kx_pV, kx_s1, kx_s2, kx_sl, kx_pre, kx_c2, kx_pl, kx_cmp, kx_oF, kx_eqN, kx_nil, kx_c1, kx_ft, kx_aI, kx_aL, kx_aR, kx_ln, Nat.reduceAdd, Option.toList, List.cons_append, List.nil_append])
      repeat' apply And.intro
      all_goals try (first | with_reducible assumption | (with_reducible refine ck_nzI ?_; simp; done) | (with_reducible refine ck_nzL ?_; simp; done) | (with_reducible refine vp_in_nI ?_ ?_ <;> first | omega | decide) | (with_reducible refine Nat.le_of_ble_eq_true ?_; rfl) | omega | (unfold vp_in; decide))
      refine hN.1 120 _ _ _ _ _ _ _ 11 _ _ _ _ _ _ _ _ _ _ lL_120 hth.n ⟨by decide, rfl⟩ h93b rfl rfl (Nat.le_of_ble_eq_true rfl) (by omega) (by decide) (by omega) (by omega) dL_law__1213 ?_
      rintro r4 P4 s4 ⟨e6, e7, e8⟩
      rw [e6, e7, e8]
      dsimp only [Option.toList, List.cons_append, List.nil_append]
      refine hB bL_law__1216 _ _ _ _ _ _ _ kL_law__1216 ?_
      dsimp only [bL_law__1216, kx_wp, kx_step, kx_lI, kx_lL, kx_lA, kx_gl, kx_pI, kx_pL, kx_pR, kx_pA, kx_pV, kx_s1, kx_s2, kx_sl, kx_pre, kx_c2, kx_pl, kx_cmp, kx_oF, kx_eqN, kx_nil, kx_c1, kx_ft, kx_aI, kx_aL, kx_aR, kx_ln, Nat.reduceAdd, Option.toList, List.cons_append, List.nil_append]
      repeat (simp only [e1x, c1x, e2x, c2x, e3x, c3x, e4x, c4x, e5x, c5x, h143b, hc0]; try dsimp only [kx_wp, kx_step, kx_lI, kx_lL, kx_lA, kx_gl, kx_pI, kx_pL, kx_pR, kx_pA, kx_pV, kx_s1, kx_s2, kx_sl, kx_pre, kx_c2, kx_pl, kx_cmp, kx_oF, kx_eqN, kx_nil, kx_c1, kx_ft, kx_aI, kx_aL, kx_aR, kx_ln, Nat.reduceAdd, Option.toList, List.cons_append, List.nil_append])
      repeat' apply And.intro
      all_goals try (first | with_reducible assumption | (with_reducible refine ck_nzI ?_; simp; done) | (with_reducible refine ck_nzL ?_; simp; done) | (with_reducible refine vp_in_nI ?_ ?_ <;> first | omega | decide) | (with_reducible refine Nat.le_of_ble_eq_true ?_; rfl) | omega | (unfold vp_in; decide))
      · intro zc1218
        refine hB bL_law__1223 _ _ _ _ _ _ _ kL_law__1223 ?_
        dsimp only [bL_law__1223, kx_wp, kx_step, kx_lI, kx_lL, kx_lA, kx_gl, kx_pI, kx_pL, kx_pR, kx_pA, kx_pV, kx_s1, kx_s2, kx_sl, kx_pre, kx_c2, kx_pl, kx_cmp, kx_oF, kx_eqN, kx_nil, kx_c1, kx_ft, kx_aI, kx_aL, kx_aR, kx_ln, Nat.reduceAdd, Option.toList, List.cons_append, List.nil_append]
        repeat (simp only [e1x, c1x, e2x, c2x, e3x, c3x, e4x, c4x, e5x, c5x, h143b, hc0]; try dsimp only [kx_wp, kx_step, kx_lI, kx_lL, kx_lA, kx_gl, kx_pI, kx_pL, kx_pR, kx_pA, kx_pV, kx_s1, kx_s2, kx_sl, kx_pre, kx_c2, kx_pl, kx_cmp, kx_oF, kx_eqN, kx_nil, kx_c1, kx_ft, kx_aI, kx_aL, kx_aR, kx_ln, Nat.reduceAdd, Option.toList, List.cons_append, List.nil_append])
        repeat' apply And.intro
        all_goals try (first | with_reducible assumption | (with_reducible refine ck_nzI ?_; simp; done) | (with_reducible refine ck_nzL ?_; simp; done) | (with_reducible refine vp_in_nI ?_ ?_ <;> first | omega | decide) | (with_reducible refine Nat.le_of_ble_eq_true ?_; rfl) | omega | (unfold vp_in; decide))
        · intro zc1225
          refine hB bL_law__1240 _ _ _ _ _ _ _ kL_law__1240 ?_
          dsimp only [bL_law__1240, kx_wp, kx_step, kx_lI, kx_lL, kx_lA, kx_gl, kx_pI, kx_pL, kx_pR, kx_pA, kx_pV, kx_s1, kx_s2, kx_sl, kx_pre, kx_c2, kx_pl, kx_cmp, kx_oF, kx_eqN, kx_nil, kx_c1, kx_ft, kx_aI, kx_aL, kx_aR, kx_ln, Nat.reduceAdd, Option.toList, List.cons_append, List.nil_append]
          repeat (simp only [e1x, c1x, e2x, c2x, e3x, c3x, e4x, c4x, e5x, c5x, h143b, hc0]; try dsimp only [kx_wp, kx_step, kx_lI, kx_lL, kx_lA, kx_gl, kx_pI, kx_pL, kx_pR, kx_pA, kx_pV, kx_s1, kx_s2, kx_sl, kx_pre, kx_c2, kx_pl, kx_cmp, kx_oF, kx_eqN, kx_nil, kx_c1, kx_ft, kx_aI, kx_aL, kx_aR, kx_ln, Nat.reduceAdd, Option.toList, List.cons_append, List.nil_append])
          repeat' apply And.intro
          all_goals try (first | with_reducible assumption | (with_reducible refine ck_nzI ?_; simp; done) | (with_reducible refine ck_nzL ?_; simp; done) | (with_reducible refine vp_in_nI ?_ ?_ <;> first | omega | decide) | (with_reducible refine Nat.le_of_ble_eq_true ?_; rfl) | omega | (unfold vp_in; decide))
          exact hgo P3 s2 S2 cl1 mi1 se1 bl1 go2 _ _ _ _ _ hI h34 h143b (by omega) (by omega) (by omega)
        · intro zc1225
          refine hB bL_law__1228 _ _ _ _ _ _ _ kL_law__1228 ?_
          dsimp only [bL_law__1228, kx_wp, kx_step, kx_lI, kx_lL, kx_lA, kx_gl, kx_pI, kx_pL, kx_pR, kx_pA, kx_pV, kx_s1, kx_s2, kx_sl, kx_pre, kx_c2, kx_pl, kx_cmp, kx_oF, kx_eqN, kx_nil, kx_c1, kx_ft, kx_aI, kx_aL, kx_aR, kx_ln, Nat.reduceAdd, Option.toList, List.cons_append, List.nil_append]
          repeat (simp only [e1x, c1x, e2x, c2x, e3x, c3x, e4x, c4x, e5x, c5x, h143b, hc0]; try dsimp only [kx_wp, kx_step, kx_lI, kx_lL, kx_lA, kx_gl, kx_pI, kx_pL, kx_pR, kx_pA, kx_pV, kx_s1, kx_s2, kx_sl, kx_pre, kx_c2, kx_pl, kx_cmp, kx_oF, kx_eqN, kx_nil, kx_c1, kx_ft, kx_aI, kx_aL, kx_aR, kx_ln, Nat.reduceAdd, Option.toList, List.cons_append, List.nil_append])
          repeat' apply And.intro
          all_goals try (first | with_reducible assumption | (with_reducible refine ck_nzI ?_; simp; done) | (with_reducible refine ck_nzL ?_; simp; done) | (with_reducible refine vp_in_nI ?_ ?_ <;> first | omega | decide) | (with_reducible refine Nat.le_of_ble_eq_true ?_; rfl) | omega | (unfold vp_in; decide))
          · intro zc1235
            refine hB bL_law__1240 _ _ _ _ _ _ _ kL_law__1240 ?_
            dsimp only [bL_law__1240, kx_wp, kx_step, kx_lI, kx_lL, kx_lA, kx_gl, kx_pI, kx_pL, kx_pR, kx_pA, kx_pV, kx_s1, kx_s2, kx_sl, kx_pre, kx_c2, kx_pl, kx_cmp, kx_oF, kx_eqN, kx_nil, kx_c1, kx_ft, kx_aI, kx_aL, kx_aR, kx_ln, Nat.reduceAdd, Option.toList, List.cons_append, List.nil_append]
            repeat (simp only [e1x, c1x, e2x, c2x, e3x, c3x, e4x, c4x, e5x, c5x, h143b, hc0]; try dsimp only [kx_wp, kx_step, kx_lI, kx_lL, kx_lA, kx_gl, kx_pI, kx_pL, kx_pR, kx_pA, kx_pV, kx_s1, kx_s2, kx_sl, kx_pre, kx_c2, kx_pl, kx_cmp, kx_oF, kx_eqN, kx_nil, kx_c1, kx_ft, kx_aI, kx_aL, kx_aR, kx_ln, Nat.reduceAdd, Option.toList, List.cons_append, List.nil_append])
            repeat' apply And.intro
            all_goals try (first | with_reducible assumption | (with_reducible refine ck_nzI ?_; simp; done) | (with_reducible refine ck_nzL ?_; simp; done) | (with_reducible refine vp_in_nI ?_ ?_ <;> first | omega | decide) | (with_reducible refine Nat.le_of_ble_eq_true ?_; rfl) | omega | (unfold vp_in; decide))
            exact hgo P3 s2 S2 cl1 mi1 se1 bl1 go2 _ _ _ _ _ hI h34 h143b (by omega) (by omega) (by omega)
          · intro zc1235
            first | exact absurd rfl zc1235 | exact absurd zc1235 (by decide) | exact absurd (by decide) zc1235 | (exfalso; first | exact hb zc1172 | exact hb zc1199 | exact zc1235 (by rw [hgo0 (Decidable.not_not.mp zc1225)]; exact lg_cmp_s _)) | (exfalso; simp_all; done)
      · intro zc1218
        first | exact absurd rfl zc1218 | exact absurd zc1218 (by decide) | exact absurd (by decide) zc1218 | (exfalso; first | exact hb zc1172 | exact hb zc1199 | exact zc1235 (by rw [hgo0 (Decidable.not_not.mp zc1225)]; exact lg_cmp_s _)) | (exfalso; simp_all; done)


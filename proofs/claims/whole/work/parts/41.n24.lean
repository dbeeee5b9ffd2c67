set_option maxRecDepth 100000 in
set_option maxHeartbeats 4000000 in
theorem ct_X11_witness_t (l : Launch) (G : kx_G) {M : Nat → Int32} {A : Nat → Nat → Int32} {L : Nat → Nat → Int64} {R : kx_P} {sz : Nat} {x y fr w : Int32} (h1 : 0 ≤ x ∧ x ≤ 99) (h2 : 0 ≤ y ∧ y ≤ 99) (h3 : 1 ≤ fr ∧ fr ≤ 12) {sd : Nat} (h22 : M 22 = nI sd) (hsd : sd < 2 ^ 30) (hso : ck_so A sd)  : kx_Mn l G sX11_witness 4 0 0 [.ref 93, .int (x), .int (y), .int (fr), .int (w)] (mW M A L R) sz (fun r P2 s2 => s2 = sz ∧ r = some (.int (ck_wt A x y fr w sd (min sd 200) 0 0 (-1))) ∧ ∃ v F F2, P2 = mW (upd (upd M 0 0) 58 v) (va_up (va_up A 124 F) 125 F2) L R) := by
  generalize hWW : ck_wt A x y fr w sd (min sd 200) 0 0 (-1) = WW
  replace hWW := hWW.symm
  refine kx_mkn kx_tab kxLok_X11 (ini := false) [some (.ref 93), some (.int (x)), some (.int (y)), some (.int (fr)), some (.int (w)), none, none, none, none, none] ⟨by decide, rfl, by decide, by decide⟩ (fun _ _ _ h => h.2.1 ▸ ⟨_, rfl⟩) rfl rfl (fun g hB hC hN => ?_)
  have loop59 : ∀ (n9 i : Nat) (m la v : Int32) (F F2 : Nat → Int32) (x8 x9 : Option Value), i + n9 = min sd 200 → (∀ j, 120 ≤ j → F j = A 124 j) → (∀ j, 120 ≤ j → F2 j = A 125 j) → WW = ck_wt A x y fr w sd n9 i m la → g 59 [some (.ref 93), some (.int x), some (.int y), some (.int fr), some (.int w), some (.int (m)), some (.int (la)), some (.int (nI i)), x8, x9] [] (mW (upd (upd M 0 0) 58 v) (va_up (va_up A 124 F) 125 F2) L R) sz 0 0 := by
    intro n9
    induction n9 with
    | zero =>
      intro i m la v F F2 x8 x9 hk hF hF2 hE
      rw [ck_wt] at hE
      have hno : ¬ (0 ≤ nI i ∧ nI i < nI sd ∧ nI i < 200) := by
        rw [show (200 : Int32) = nI 200 from rfl, nI_ltI (by omega) (by omega), nI_ltI (by omega) (by omega)]
        omega
      refine hB bX11_witness_59 _ _ _ _ _ _ _ kX11_witness_59 ?_
      dsimp only [bX11_witness_59, kx_wp, kx_step, kx_lI, kx_lL, kx_lA, kx_gl, kx_pI, kx_pL, kx_pR, kx_pA, kx_pV, kx_s1, kx_s2, kx_sl, kx_pre, kx_c2, kx_pl, kx_cmp, kx_oF, kx_eqN, kx_nil, kx_c1, kx_ft, kx_aI, kx_aL, kx_aR, kx_ln, Nat.reduceAdd, Option.toList, List.cons_append, List.nil_append, mW_o, mf_0, mf_42, m_119, mf_22]
      repeat (simp only [mu_0, mW_so, ms_119, nI_1, va_us, va_upn, ne_eq, Nat.reduceEqDiff, not_false_eq_true, va_upup, va_up3, pk_uu]; try dsimp only [kx_wp, kx_step, kx_lI, kx_lL, kx_lA, kx_gl, kx_pI, kx_pL, kx_pR, kx_pA, kx_pV, kx_s1, kx_s2, kx_sl, kx_pre, kx_c2, kx_pl, kx_cmp, kx_oF, kx_eqN, kx_nil, kx_c1, kx_ft, kx_aI, kx_aL, kx_aR, kx_ln, Nat.reduceAdd, Option.toList, List.cons_append, List.nil_append, mW_o, mf_0, mf_42, m_119, mf_22])
      repeat' apply And.intro
      all_goals try (first | with_reducible assumption | (with_reducible refine ck_nzI ?_; simp; done) | (with_reducible refine ck_nzL ?_; simp; done) | (with_reducible refine vp_in_nI ?_ ?_ <;> first | omega | decide) | (with_reducible refine Nat.le_of_ble_eq_true ?_; rfl) | omega)
      refine hC.1 467 _ _ _ _ _ _ _ 11 _ _ _ _ _ _ _ _ _ _ _ _ lX11_467 (ct_X11_isKept l G) ⟨by decide, rfl⟩ (mW_o) rfl rfl (Nat.le_of_ble_eq_true rfl) (by decide) (by decide) (by omega) (by omega) dX11_witness_62 ?_
      rw [show upd (upd M 0 0) 58 v 22 = nI sd from h22, if_neg hno]
      refine hB bX11_witness_65 _ _ _ _ _ _ _ kX11_witness_65 ?_
      dsimp only [bX11_witness_65, kx_wp, kx_step, kx_lI, kx_lL, kx_lA, kx_gl, kx_pI, kx_pL, kx_pR, kx_pA, kx_pV, kx_s1, kx_s2, kx_sl, kx_pre, kx_c2, kx_pl, kx_cmp, kx_oF, kx_eqN, kx_nil, kx_c1, kx_ft, kx_aI, kx_aL, kx_aR, kx_ln, Nat.reduceAdd, Option.toList, List.cons_append, List.nil_append, mW_o, mf_0, mf_42, m_119, mf_22]
      repeat (simp only [mu_0, mW_so, ms_119, nI_1, va_us, va_upn, ne_eq, Nat.reduceEqDiff, not_false_eq_true, va_upup, va_up3, pk_uu]; try dsimp only [kx_wp, kx_step, kx_lI, kx_lL, kx_lA, kx_gl, kx_pI, kx_pL, kx_pR, kx_pA, kx_pV, kx_s1, kx_s2, kx_sl, kx_pre, kx_c2, kx_pl, kx_cmp, kx_oF, kx_eqN, kx_nil, kx_c1, kx_ft, kx_aI, kx_aL, kx_aR, kx_ln, Nat.reduceAdd, Option.toList, List.cons_append, List.nil_append, mW_o, mf_0, mf_42, m_119, mf_22])
      repeat' apply And.intro
      all_goals try (first | with_reducible assumption | (with_reducible refine ck_nzI ?_; simp; done) | (with_reducible refine ck_nzL ?_; simp; done) | (with_reducible refine vp_in_nI ?_ ?_ <;> first | omega | decide) | (with_reducible refine Nat.le_of_ble_eq_true ?_; rfl) | omega)
      · intro zc65
        have ze65 := zc65
        refine hB bX11_witness_151 _ _ _ _ _ _ _ kX11_witness_151 ?_
        dsimp only [bX11_witness_151, kx_wp, kx_step, kx_lI, kx_lL, kx_lA, kx_gl, kx_pI, kx_pL, kx_pR, kx_pA, kx_pV, kx_s1, kx_s2, kx_sl, kx_pre, kx_c2, kx_pl, kx_cmp, kx_oF, kx_eqN, kx_nil, kx_c1, kx_ft, kx_aI, kx_aL, kx_aR, kx_ln, Nat.reduceAdd, Option.toList, List.cons_append, List.nil_append, mW_o, mf_0, mf_42, m_119, mf_22]
        repeat (simp only [mu_0, mW_so, ms_119, nI_1, va_us, va_upn, ne_eq, Nat.reduceEqDiff, not_false_eq_true, va_upup, va_up3, pk_uu]; try dsimp only [kx_wp, kx_step, kx_lI, kx_lL, kx_lA, kx_gl, kx_pI, kx_pL, kx_pR, kx_pA, kx_pV, kx_s1, kx_s2, kx_sl, kx_pre, kx_c2, kx_pl, kx_cmp, kx_oF, kx_eqN, kx_nil, kx_c1, kx_ft, kx_aI, kx_aL, kx_aR, kx_ln, Nat.reduceAdd, Option.toList, List.cons_append, List.nil_append, mW_o, mf_0, mf_42, m_119, mf_22])
        all_goals (repeat' apply And.intro)
        all_goals ((try clear hB hC); first | exact True.intro | exact ⟨_, _, _, rfl⟩ | with_reducible rfl | with_reducible assumption | (with_reducible refine vp_in_nI ?_ ?_ <;> first | omega | decide) | (simp only [eq_true ze65, ↓reduceIte] at hE; rw [hE]) | (rw [hE]))
      · intro zc65
        first | exact absurd rfl zc65 | exact absurd zc65 (by decide) | exact absurd (by decide) zc65 | (exfalso; first | exact absurd zc65 (by decide) | exact zc65 rfl) | (exfalso; simp_all; done)
    | succ n9 ih =>
      intro i m la v F F2 x8 x9 hk hF hF2 hE
      rw [ck_wt] at hE
      have hyes : 0 ≤ nI i ∧ nI i < nI sd ∧ nI i < 200 := by
        rw [show (200 : Int32) = nI 200 from rfl, nI_ltI (by omega) (by omega), nI_ltI (by omega) (by omega)]
        exact ⟨nI_pos' (by omega), by omega, by omega⟩
      have zi1 : nI sd - 1 - nI i - (nI sd - 1 - nI i) / 200 * 200 = nI ((sd - 1 - i) % 200) := by
        rw [show (1 : Int32) = nI 1 from rfl, pk_sub (show 1 ≤ sd by omega), pk_sub (show i ≤ sd - 1 by omega), show (200 : Int32) = nI 200 from rfl, pk_rem (by omega) (by decide) (by decide)]
      have hi : (sd - 1 - i) % 200 < 200 := Nat.mod_lt _ (by decide)
      try dsimp only at hE
      refine hB bX11_witness_59 _ _ _ _ _ _ _ kX11_witness_59 ?_
      dsimp only [bX11_witness_59, kx_wp, kx_step, kx_lI, kx_lL, kx_lA, kx_gl, kx_pI, kx_pL, kx_pR, kx_pA, kx_pV, kx_s1, kx_s2, kx_sl, kx_pre, kx_c2, kx_pl, kx_cmp, kx_oF, kx_eqN, kx_nil, kx_c1, kx_ft, kx_aI, kx_aL, kx_aR, kx_ln, Nat.reduceAdd, Option.toList, List.cons_append, List.nil_append, mW_o, mf_0, mf_42, m_119, mf_22]
      repeat (simp only [mu_0, mW_so, ms_119, nI_1, va_us, va_upn, ne_eq, Nat.reduceEqDiff, not_false_eq_true, va_upup, va_up3, pk_uu, show upd (upd M 0 0) 58 v 22 = nI sd from h22, zi1, nI_clamp (show (sd - 1 - i) % 200 < 2 ^ 31 by omega)]; try dsimp only [kx_wp, kx_step, kx_lI, kx_lL, kx_lA, kx_gl, kx_pI, kx_pL, kx_pR, kx_pA, kx_pV, kx_s1, kx_s2, kx_sl, kx_pre, kx_c2, kx_pl, kx_cmp, kx_oF, kx_eqN, kx_nil, kx_c1, kx_ft, kx_aI, kx_aL, kx_aR, kx_ln, Nat.reduceAdd, Option.toList, List.cons_append, List.nil_append, mW_o, mf_0, mf_42, m_119, mf_22])
      repeat' apply And.intro
      all_goals try (first | with_reducible assumption | (with_reducible refine ck_nzI ?_; simp; done) | (with_reducible refine ck_nzL ?_; simp; done) | (with_reducible refine vp_in_nI ?_ ?_ <;> first | omega | decide) | (with_reducible refine Nat.le_of_ble_eq_true ?_; rfl) | omega)
      refine hC.1 467 _ _ _ _ _ _ _ 11 _ _ _ _ _ _ _ _ _ _ _ _ lX11_467 (ct_X11_isKept l G) ⟨by decide, rfl⟩ (mW_o) rfl rfl (Nat.le_of_ble_eq_true rfl) (by decide) (by decide) (by omega) (by omega) dX11_witness_62 ?_
      rw [show upd (upd M 0 0) 58 v 22 = nI sd from h22, if_pos hyes]
      refine hB bX11_witness_65 _ _ _ _ _ _ _ kX11_witness_65 ?_
      dsimp only [bX11_witness_65, kx_wp, kx_step, kx_lI, kx_lL, kx_lA, kx_gl, kx_pI, kx_pL, kx_pR, kx_pA, kx_pV, kx_s1, kx_s2, kx_sl, kx_pre, kx_c2, kx_pl, kx_cmp, kx_oF, kx_eqN, kx_nil, kx_c1, kx_ft, kx_aI, kx_aL, kx_aR, kx_ln, Nat.reduceAdd, Option.toList, List.cons_append, List.nil_append, mW_o, mf_0, mf_42, m_119, mf_22]
      repeat (simp only [mu_0, mW_so, ms_119, nI_1, va_us, va_upn, ne_eq, Nat.reduceEqDiff, not_false_eq_true, va_upup, va_up3, pk_uu, show upd (upd M 0 0) 58 v 22 = nI sd from h22, zi1, nI_clamp (show (sd - 1 - i) % 200 < 2 ^ 31 by omega)]; try dsimp only [kx_wp, kx_step, kx_lI, kx_lL, kx_lA, kx_gl, kx_pI, kx_pL, kx_pR, kx_pA, kx_pV, kx_s1, kx_s2, kx_sl, kx_pre, kx_c2, kx_pl, kx_cmp, kx_oF, kx_eqN, kx_nil, kx_c1, kx_ft, kx_aI, kx_aL, kx_aR, kx_ln, Nat.reduceAdd, Option.toList, List.cons_append, List.nil_append, mW_o, mf_0, mf_42, m_119, mf_22])
      repeat' apply And.intro
      all_goals try (first | with_reducible assumption | (with_reducible refine ck_nzI ?_; simp; done) | (with_reducible refine ck_nzL ?_; simp; done) | (with_reducible refine vp_in_nI ?_ ?_ <;> first | omega | decide) | (with_reducible refine Nat.le_of_ble_eq_true ?_; rfl) | omega)
      · intro zc65
        first | exact absurd rfl zc65 | exact absurd zc65 (by decide) | exact absurd (by decide) zc65 | (exfalso; first | exact absurd zc65 (by decide) | exact zc65 rfl) | (exfalso; simp_all; done)
      · intro zc65
        have ze65 := zc65
        refine hB bX11_witness_68 _ _ _ _ _ _ _ kX11_witness_68 ?_
        dsimp only [bX11_witness_68, kx_wp, kx_step, kx_lI, kx_lL, kx_lA, kx_gl, kx_pI, kx_pL, kx_pR, kx_pA, kx_pV, kx_s1, kx_s2, kx_sl, kx_pre, kx_c2, kx_pl, kx_cmp, kx_oF, kx_eqN, kx_nil, kx_c1, kx_ft, kx_aI, kx_aL, kx_aR, kx_ln, Nat.reduceAdd, Option.toList, List.cons_append, List.nil_append, mW_o, mf_0, mf_42, m_119, mf_22]
        repeat (simp only [mu_0, mW_so, ms_119, nI_1, va_us, va_upn, ne_eq, Nat.reduceEqDiff, not_false_eq_true, va_upup, va_up3, pk_uu, show upd (upd M 0 0) 58 v 22 = nI sd from h22, zi1, nI_clamp (show (sd - 1 - i) % 200 < 2 ^ 31 by omega)]; try dsimp only [kx_wp, kx_step, kx_lI, kx_lL, kx_lA, kx_gl, kx_pI, kx_pL, kx_pR, kx_pA, kx_pV, kx_s1, kx_s2, kx_sl, kx_pre, kx_c2, kx_pl, kx_cmp, kx_oF, kx_eqN, kx_nil, kx_c1, kx_ft, kx_aI, kx_aL, kx_aR, kx_ln, Nat.reduceAdd, Option.toList, List.cons_append, List.nil_append, mW_o, mf_0, mf_42, m_119, mf_22])
        repeat' apply And.intro
        all_goals try (first | with_reducible assumption | (with_reducible refine ck_nzI ?_; simp; done) | (with_reducible refine ck_nzL ?_; simp; done) | (with_reducible refine vp_in_nI ?_ ?_ <;> first | omega | decide) | (with_reducible refine Nat.le_of_ble_eq_true ?_; rfl) | omega)
        · intro zc95
          have ze95 := zc95
          refine hB bX11_witness_101 _ _ _ _ _ _ _ kX11_witness_101 ?_
          dsimp only [bX11_witness_101, kx_wp, kx_step, kx_lI, kx_lL, kx_lA, kx_gl, kx_pI, kx_pL, kx_pR, kx_pA, kx_pV, kx_s1, kx_s2, kx_sl, kx_pre, kx_c2, kx_pl, kx_cmp, kx_oF, kx_eqN, kx_nil, kx_c1, kx_ft, kx_aI, kx_aL, kx_aR, kx_ln, Nat.reduceAdd, Option.toList, List.cons_append, List.nil_append, mW_o, mf_0, mf_42, m_119, mf_22]
          repeat (simp only [mu_0, mW_so, ms_119, nI_1, va_us, va_upn, ne_eq, Nat.reduceEqDiff, not_false_eq_true, va_upup, va_up3, pk_uu, show upd (upd M 0 0) 58 v 22 = nI sd from h22, zi1, nI_clamp (show (sd - 1 - i) % 200 < 2 ^ 31 by omega)]; try dsimp only [kx_wp, kx_step, kx_lI, kx_lL, kx_lA, kx_gl, kx_pI, kx_pL, kx_pR, kx_pA, kx_pV, kx_s1, kx_s2, kx_sl, kx_pre, kx_c2, kx_pl, kx_cmp, kx_oF, kx_eqN, kx_nil, kx_c1, kx_ft, kx_aI, kx_aL, kx_aR, kx_ln, Nat.reduceAdd, Option.toList, List.cons_append, List.nil_append, mW_o, mf_0, mf_42, m_119, mf_22])
          repeat' apply And.intro
          all_goals try (first | with_reducible assumption | (with_reducible refine ck_nzI ?_; simp; done) | (with_reducible refine ck_nzL ?_; simp; done) | (with_reducible refine vp_in_nI ?_ ?_ <;> first | omega | decide) | (with_reducible refine Nat.le_of_ble_eq_true ?_; rfl) | omega)
          refine hC.1 473 _ _ _ _ _ _ _ 11 _ _ _ _ _ _ _ _ _ _ _ _ lX11_473 (ct_X11_hears l G (M := upd (upd M 0 0) 58 v) (A := va_up (va_up A 124 F) 125 F2) h22 hsd hso) ⟨by decide, rfl⟩ (mW_o) rfl rfl (Nat.le_of_ble_eq_true rfl) (by decide) (by decide) (by omega) (by omega) dX11_witness_110 ?_
          rw [(ck_hr_in hF hF2).1, (ck_hr_in hF hF2).2]
          refine hB bX11_witness_113 _ _ _ _ _ _ _ kX11_witness_113 ?_
          dsimp only [bX11_witness_113, kx_wp, kx_step, kx_lI, kx_lL, kx_lA, kx_gl, kx_pI, kx_pL, kx_pR, kx_pA, kx_pV, kx_s1, kx_s2, kx_sl, kx_pre, kx_c2, kx_pl, kx_cmp, kx_oF, kx_eqN, kx_nil, kx_c1, kx_ft, kx_aI, kx_aL, kx_aR, kx_ln, Nat.reduceAdd, Option.toList, List.cons_append, List.nil_append, mW_o, mf_0, mf_42, m_119, mf_22]
          repeat (simp only [mu_0, mW_so, ms_119, nI_1, va_us, va_upn, ne_eq, Nat.reduceEqDiff, not_false_eq_true, va_upup, va_up3, pk_uu, show upd (upd M 0 0) 58 v 22 = nI sd from h22, zi1, nI_clamp (show (sd - 1 - i) % 200 < 2 ^ 31 by omega)]; try dsimp only [kx_wp, kx_step, kx_lI, kx_lL, kx_lA, kx_gl, kx_pI, kx_pL, kx_pR, kx_pA, kx_pV, kx_s1, kx_s2, kx_sl, kx_pre, kx_c2, kx_pl, kx_cmp, kx_oF, kx_eqN, kx_nil, kx_c1, kx_ft, kx_aI, kx_aL, kx_aR, kx_ln, Nat.reduceAdd, Option.toList, List.cons_append, List.nil_append, mW_o, mf_0, mf_42, m_119, mf_22])
          repeat' apply And.intro
          all_goals try (first | with_reducible assumption | (with_reducible refine ck_nzI ?_; simp; done) | (with_reducible refine ck_nzL ?_; simp; done) | (with_reducible refine vp_in_nI ?_ ?_ <;> first | omega | decide) | (with_reducible refine Nat.le_of_ble_eq_true ?_; rfl) | omega)
          · intro zc117
            have ze117 := zc117
            refine hB bX11_witness_145 _ _ _ _ _ _ _ kX11_witness_145 ?_
            dsimp only [bX11_witness_145, kx_wp, kx_step, kx_lI, kx_lL, kx_lA, kx_gl, kx_pI, kx_pL, kx_pR, kx_pA, kx_pV, kx_s1, kx_s2, kx_sl, kx_pre, kx_c2, kx_pl, kx_cmp, kx_oF, kx_eqN, kx_nil, kx_c1, kx_ft, kx_aI, kx_aL, kx_aR, kx_ln, Nat.reduceAdd, Option.toList, List.cons_append, List.nil_append, mW_o, mf_0, mf_42, m_119, mf_22]
            repeat (simp only [mu_0, mW_so, ms_119, nI_1, va_us, va_upn, ne_eq, Nat.reduceEqDiff, not_false_eq_true, va_upup, va_up3, pk_uu, show upd (upd M 0 0) 58 v 22 = nI sd from h22, zi1, nI_clamp (show (sd - 1 - i) % 200 < 2 ^ 31 by omega)]; try dsimp only [kx_wp, kx_step, kx_lI, kx_lL, kx_lA, kx_gl, kx_pI, kx_pL, kx_pR, kx_pA, kx_pV, kx_s1, kx_s2, kx_sl, kx_pre, kx_c2, kx_pl, kx_cmp, kx_oF, kx_eqN, kx_nil, kx_c1, kx_ft, kx_aI, kx_aL, kx_aR, kx_ln, Nat.reduceAdd, Option.toList, List.cons_append, List.nil_append, mW_o, mf_0, mf_42, m_119, mf_22])
            repeat' apply And.intro
            all_goals try (first | with_reducible assumption | (with_reducible refine ck_nzI ?_; simp; done) | (with_reducible refine ck_nzL ?_; simp; done) | (with_reducible refine vp_in_nI ?_ ?_ <;> first | omega | decide) | (with_reducible refine Nat.le_of_ble_eq_true ?_; rfl) | omega)
            simp only [ze65, ze95, eq_true ze117, ↓reduceIte] at hE
            exact ih (i + 1) _ _ _ _ _ _ _ (by omega) (by first | exact hF | exact fun j hj => (ck_ho_out A x y _ sd hj _).1) (by first | exact hF2 | exact fun j hj => (ck_ho_out A x y _ sd hj _).2) hE
          · intro zc117
            have ze117 := zc117
            refine hB bX11_witness_120 _ _ _ _ _ _ _ kX11_witness_120 ?_
            dsimp only [bX11_witness_120, kx_wp, kx_step, kx_lI, kx_lL, kx_lA, kx_gl, kx_pI, kx_pL, kx_pR, kx_pA, kx_pV, kx_s1, kx_s2, kx_sl, kx_pre, kx_c2, kx_pl, kx_cmp, kx_oF, kx_eqN, kx_nil, kx_c1, kx_ft, kx_aI, kx_aL, kx_aR, kx_ln, Nat.reduceAdd, Option.toList, List.cons_append, List.nil_append, mW_o, mf_0, mf_42, m_119, mf_22]
            repeat (simp only [mu_0, mW_so, ms_119, nI_1, va_us, va_upn, ne_eq, Nat.reduceEqDiff, not_false_eq_true, va_upup, va_up3, pk_uu, show upd (upd M 0 0) 58 v 22 = nI sd from h22, zi1, nI_clamp (show (sd - 1 - i) % 200 < 2 ^ 31 by omega)]; try dsimp only [kx_wp, kx_step, kx_lI, kx_lL, kx_lA, kx_gl, kx_pI, kx_pL, kx_pR, kx_pA, kx_pV, kx_s1, kx_s2, kx_sl, kx_pre, kx_c2, kx_pl, kx_cmp, kx_oF, kx_eqN, kx_nil, kx_c1, kx_ft, kx_aI, kx_aL, kx_aR, kx_ln, Nat.reduceAdd, Option.toList, List.cons_append, List.nil_append, mW_o, mf_0, mf_42, m_119, mf_22])
            repeat' apply And.intro
            all_goals try (first | with_reducible assumption | (with_reducible refine ck_nzI ?_; simp; done) | (with_reducible refine ck_nzL ?_; simp; done) | (with_reducible refine vp_in_nI ?_ ?_ <;> first | omega | decide) | (with_reducible refine Nat.le_of_ble_eq_true ?_; rfl) | omega)
            refine hC.2.1 442 _ _ _ _ _ _ _ _ _ _ _ _ _ _ _ _ _ lX11_442 (ct_X11_usual l G) rfl rfl (Nat.le_of_ble_eq_true rfl) (by decide) (by decide) (by omega) (by omega) dX11_witness_122 ?_
            refine hB bX11_witness_125 _ _ _ _ _ _ _ kX11_witness_125 ?_
            dsimp only [bX11_witness_125, kx_wp, kx_step, kx_lI, kx_lL, kx_lA, kx_gl, kx_pI, kx_pL, kx_pR, kx_pA, kx_pV, kx_s1, kx_s2, kx_sl, kx_pre, kx_c2, kx_pl, kx_cmp, kx_oF, kx_eqN, kx_nil, kx_c1, kx_ft, kx_aI, kx_aL, kx_aR, kx_ln, Nat.reduceAdd, Option.toList, List.cons_append, List.nil_append, mW_o, mf_0, mf_42, m_119, mf_22]
            repeat (simp only [mu_0, mW_so, ms_119, nI_1, va_us, va_upn, ne_eq, Nat.reduceEqDiff, not_false_eq_true, va_upup, va_up3, pk_uu, show upd (upd M 0 0) 58 v 22 = nI sd from h22, zi1, nI_clamp (show (sd - 1 - i) % 200 < 2 ^ 31 by omega)]; try dsimp only [kx_wp, kx_step, kx_lI, kx_lL, kx_lA, kx_gl, kx_pI, kx_pL, kx_pR, kx_pA, kx_pV, kx_s1, kx_s2, kx_sl, kx_pre, kx_c2, kx_pl, kx_cmp, kx_oF, kx_eqN, kx_nil, kx_c1, kx_ft, kx_aI, kx_aL, kx_aR, kx_ln, Nat.reduceAdd, Option.toList, List.cons_append, List.nil_append, mW_o, mf_0, mf_42, m_119, mf_22])
            repeat' apply And.intro
            all_goals try (first | with_reducible assumption | (with_reducible refine ck_nzI ?_; simp; done) | (with_reducible refine ck_nzL ?_; simp; done) | (with_reducible refine vp_in_nI ?_ ?_ <;> first | omega | decide) | (with_reducible refine Nat.le_of_ble_eq_true ?_; rfl) | omega)
            · intro zc126
              have ze126 := zc126
              refine hB bX11_witness_132 _ _ _ _ _ _ _ kX11_witness_132 ?_
              dsimp only [bX11_witness_132, kx_wp, kx_step, kx_lI, kx_lL, kx_lA, kx_gl, kx_pI, kx_pL, kx_pR, kx_pA, kx_pV, kx_s1, kx_s2, kx_sl, kx_pre, kx_c2, kx_pl, kx_cmp, kx_oF, kx_eqN, kx_nil, kx_c1, kx_ft, kx_aI, kx_aL, kx_aR, kx_ln, Nat.reduceAdd, Option.toList, List.cons_append, List.nil_append, mW_o, mf_0, mf_42, m_119, mf_22]
              repeat (simp only [mu_0, mW_so, ms_119, nI_1, va_us, va_upn, ne_eq, Nat.reduceEqDiff, not_false_eq_true, va_upup, va_up3, pk_uu, show upd (upd M 0 0) 58 v 22 = nI sd from h22, zi1, nI_clamp (show (sd - 1 - i) % 200 < 2 ^ 31 by omega)]; try dsimp only [kx_wp, kx_step, kx_lI, kx_lL, kx_lA, kx_gl, kx_pI, kx_pL, kx_pR, kx_pA, kx_pV, kx_s1, kx_s2, kx_sl, kx_pre, kx_c2, kx_pl, kx_cmp, kx_oF, kx_eqN, kx_nil, kx_c1, kx_ft, kx_aI, kx_aL, kx_aR, kx_ln, Nat.reduceAdd, Option.toList, List.cons_append, List.nil_append, mW_o, mf_0, mf_42, m_119, mf_22])
              repeat' apply And.intro
              all_goals try (first | with_reducible assumption | (with_reducible refine ck_nzI ?_; simp; done) | (with_reducible refine ck_nzL ?_; simp; done) | (with_reducible refine vp_in_nI ?_ ?_ <;> first | omega | decide) | (with_reducible refine Nat.le_of_ble_eq_true ?_; rfl) | omega)
              · intro zc136
                have ze136 := zc136
                refine hB bX11_witness_142 _ _ _ _ _ _ _ kX11_witness_142 ?_
                dsimp only [bX11_witness_142, kx_wp, kx_step, kx_lI, kx_lL, kx_lA, kx_gl, kx_pI, kx_pL, kx_pR, kx_pA, kx_pV, kx_s1, kx_s2, kx_sl, kx_pre, kx_c2, kx_pl, kx_cmp, kx_oF, kx_eqN, kx_nil, kx_c1, kx_ft, kx_aI, kx_aL, kx_aR, kx_ln, Nat.reduceAdd, Option.toList, List.cons_append, List.nil_append, mW_o, mf_0, mf_42, m_119, mf_22]
                repeat (simp only [mu_0, mW_so, ms_119, nI_1, va_us, va_upn, ne_eq, Nat.reduceEqDiff, not_false_eq_true, va_upup, va_up3, pk_uu, show upd (upd M 0 0) 58 v 22 = nI sd from h22, zi1, nI_clamp (show (sd - 1 - i) % 200 < 2 ^ 31 by omega)]; try dsimp only [kx_wp, kx_step, kx_lI, kx_lL, kx_lA, kx_gl, kx_pI, kx_pL, kx_pR, kx_pA, kx_pV, kx_s1, kx_s2, kx_sl, kx_pre, kx_c2, kx_pl, kx_cmp, kx_oF, kx_eqN, kx_nil, kx_c1, kx_ft, kx_aI, kx_aL, kx_aR, kx_ln, Nat.reduceAdd, Option.toList, List.cons_append, List.nil_append, mW_o, mf_0, mf_42, m_119, mf_22])
                repeat' apply And.intro
                all_goals try (first | with_reducible assumption | (with_reducible refine ck_nzI ?_; simp; done) | (with_reducible refine ck_nzL ?_; simp; done) | (with_reducible refine vp_in_nI ?_ ?_ <;> first | omega | decide) | (with_reducible refine Nat.le_of_ble_eq_true ?_; rfl) | omega)
                refine hB bX11_witness_145 _ _ _ _ _ _ _ kX11_witness_145 ?_
                dsimp only [bX11_witness_145, kx_wp, kx_step, kx_lI, kx_lL, kx_lA, kx_gl, kx_pI, kx_pL, kx_pR, kx_pA, kx_pV, kx_s1, kx_s2, kx_sl, kx_pre, kx_c2, kx_pl, kx_cmp, kx_oF, kx_eqN, kx_nil, kx_c1, kx_ft, kx_aI, kx_aL, kx_aR, kx_ln, Nat.reduceAdd, Option.toList, List.cons_append, List.nil_append, mW_o, mf_0, mf_42, m_119, mf_22]
                repeat (simp only [mu_0, mW_so, ms_119, nI_1, va_us, va_upn, ne_eq, Nat.reduceEqDiff, not_false_eq_true, va_upup, va_up3, pk_uu, show upd (upd M 0 0) 58 v 22 = nI sd from h22, zi1, nI_clamp (show (sd - 1 - i) % 200 < 2 ^ 31 by omega)]; try dsimp only [kx_wp, kx_step, kx_lI, kx_lL, kx_lA, kx_gl, kx_pI, kx_pL, kx_pR, kx_pA, kx_pV, kx_s1, kx_s2, kx_sl, kx_pre, kx_c2, kx_pl, kx_cmp, kx_oF, kx_eqN, kx_nil, kx_c1, kx_ft, kx_aI, kx_aL, kx_aR, kx_ln, Nat.reduceAdd, Option.toList, List.cons_append, List.nil_append, mW_o, mf_0, mf_42, m_119, mf_22])
                repeat' apply And.intro
                all_goals try (first | with_reducible assumption | (with_reducible refine ck_nzI ?_; simp; done) | (with_reducible refine ck_nzL ?_; simp; done) | (with_reducible refine vp_in_nI ?_ ?_ <;> first | omega | decide) | (with_reducible refine Nat.le_of_ble_eq_true ?_; rfl) | omega)
                simp only [ze65, ze95, ze117, eq_true ze126, ze136, ↓reduceIte] at hE
                exact ih (i + 1) _ _ _ _ _ _ _ (by omega) (by first | exact hF | exact fun j hj => (ck_ho_out A x y _ sd hj _).1) (by first | exact hF2 | exact fun j hj => (ck_ho_out A x y _ sd hj _).2) hE
              · intro zc136
                with_reducible first | have ze136 := Decidable.not_not.mp zc136 | have ze136 := zc136
                refine hB bX11_witness_139 _ _ _ _ _ _ _ kX11_witness_139 ?_
                dsimp only [bX11_witness_139, kx_wp, kx_step, kx_lI, kx_lL, kx_lA, kx_gl, kx_pI, kx_pL, kx_pR, kx_pA, kx_pV, kx_s1, kx_s2, kx_sl, kx_pre, kx_c2, kx_pl, kx_cmp, kx_oF, kx_eqN, kx_nil, kx_c1, kx_ft, kx_aI, kx_aL, kx_aR, kx_ln, Nat.reduceAdd, Option.toList, List.cons_append, List.nil_append, mW_o, mf_0, mf_42, m_119, mf_22]
                repeat (simp only [mu_0, mW_so, ms_119, nI_1, va_us, va_upn, ne_eq, Nat.reduceEqDiff, not_false_eq_true, va_upup, va_up3, pk_uu, show upd (upd M 0 0) 58 v 22 = nI sd from h22, zi1, nI_clamp (show (sd - 1 - i) % 200 < 2 ^ 31 by omega)]; try dsimp only [kx_wp, kx_step, kx_lI, kx_lL, kx_lA, kx_gl, kx_pI, kx_pL, kx_pR, kx_pA, kx_pV, kx_s1, kx_s2, kx_sl, kx_pre, kx_c2, kx_pl, kx_cmp, kx_oF, kx_eqN, kx_nil, kx_c1, kx_ft, kx_aI, kx_aL, kx_aR, kx_ln, Nat.reduceAdd, Option.toList, List.cons_append, List.nil_append, mW_o, mf_0, mf_42, m_119, mf_22])
                all_goals (repeat' apply And.intro)
                all_goals ((try clear hB hC); first | exact True.intro | exact ⟨_, _, _, rfl⟩ | with_reducible rfl | with_reducible assumption | (with_reducible refine vp_in_nI ?_ ?_ <;> first | omega | decide) | (simp only [ze65, ze95, ze117, eq_true ze126, eq_true ze136, ↓reduceIte] at hE; rw [hE]) | (rw [hE]))
            · intro zc126
              have ze126 := zc126
              refine hB bX11_witness_129 _ _ _ _ _ _ _ kX11_witness_129 ?_
              dsimp only [bX11_witness_129, kx_wp, kx_step, kx_lI, kx_lL, kx_lA, kx_gl, kx_pI, kx_pL, kx_pR, kx_pA, kx_pV, kx_s1, kx_s2, kx_sl, kx_pre, kx_c2, kx_pl, kx_cmp, kx_oF, kx_eqN, kx_nil, kx_c1, kx_ft, kx_aI, kx_aL, kx_aR, kx_ln, Nat.reduceAdd, Option.toList, List.cons_append, List.nil_append, mW_o, mf_0, mf_42, m_119, mf_22]
              repeat (simp only [mu_0, mW_so, ms_119, nI_1, va_us, va_upn, ne_eq, Nat.reduceEqDiff, not_false_eq_true, va_upup, va_up3, pk_uu, show upd (upd M 0 0) 58 v 22 = nI sd from h22, zi1, nI_clamp (show (sd - 1 - i) % 200 < 2 ^ 31 by omega)]; try dsimp only [kx_wp, kx_step, kx_lI, kx_lL, kx_lA, kx_gl, kx_pI, kx_pL, kx_pR, kx_pA, kx_pV, kx_s1, kx_s2, kx_sl, kx_pre, kx_c2, kx_pl, kx_cmp, kx_oF, kx_eqN, kx_nil, kx_c1, kx_ft, kx_aI, kx_aL, kx_aR, kx_ln, Nat.reduceAdd, Option.toList, List.cons_append, List.nil_append, mW_o, mf_0, mf_42, m_119, mf_22])
              repeat' apply And.intro
              all_goals try (first | with_reducible assumption | (with_reducible refine ck_nzI ?_; simp; done) | (with_reducible refine ck_nzL ?_; simp; done) | (with_reducible refine vp_in_nI ?_ ?_ <;> first | omega | decide) | (with_reducible refine Nat.le_of_ble_eq_true ?_; rfl) | omega)
              refine hB bX11_witness_145 _ _ _ _ _ _ _ kX11_witness_145 ?_
              dsimp only [bX11_witness_145, kx_wp, kx_step, kx_lI, kx_lL, kx_lA, kx_gl, kx_pI, kx_pL, kx_pR, kx_pA, kx_pV, kx_s1, kx_s2, kx_sl, kx_pre, kx_c2, kx_pl, kx_cmp, kx_oF, kx_eqN, kx_nil, kx_c1, kx_ft, kx_aI, kx_aL, kx_aR, kx_ln, Nat.reduceAdd, Option.toList, List.cons_append, List.nil_append, mW_o, mf_0, mf_42, m_119, mf_22]
              repeat (simp only [mu_0, mW_so, ms_119, nI_1, va_us, va_upn, ne_eq, Nat.reduceEqDiff, not_false_eq_true, va_upup, va_up3, pk_uu, show upd (upd M 0 0) 58 v 22 = nI sd from h22, zi1, nI_clamp (show (sd - 1 - i) % 200 < 2 ^ 31 by omega)]; try dsimp only [kx_wp, kx_step, kx_lI, kx_lL, kx_lA, kx_gl, kx_pI, kx_pL, kx_pR, kx_pA, kx_pV, kx_s1, kx_s2, kx_sl, kx_pre, kx_c2, kx_pl, kx_cmp, kx_oF, kx_eqN, kx_nil, kx_c1, kx_ft, kx_aI, kx_aL, kx_aR, kx_ln, Nat.reduceAdd, Option.toList, List.cons_append, List.nil_append, mW_o, mf_0, mf_42, m_119, mf_22])
              repeat' apply And.intro
              all_goals try (first | with_reducible assumption | (with_reducible refine ck_nzI ?_; simp; done) | (with_reducible refine ck_nzL ?_; simp; done) | (with_reducible refine vp_in_nI ?_ ?_ <;> first | omega | decide) | (with_reducible refine Nat.le_of_ble_eq_true ?_; rfl) | omega)
              simp only [ze65, ze95, ze117, ze126, ↓reduceIte] at hE
              exact ih (i + 1) _ _ _ _ _ _ _ (by omega) (by first | exact hF | exact fun j hj => (ck_ho_out A x y _ sd hj _).1) (by first | exact hF2 | exact fun j hj => (ck_ho_out A x y _ sd hj _).2) hE
        · intro zc95
          with_reducible first | have ze95 := Decidable.not_not.mp zc95 | have ze95 := zc95
          refine hB bX11_witness_98 _ _ _ _ _ _ _ kX11_witness_98 ?_
          dsimp only [bX11_witness_98, kx_wp, kx_step, kx_lI, kx_lL, kx_lA, kx_gl, kx_pI, kx_pL, kx_pR, kx_pA, kx_pV, kx_s1, kx_s2, kx_sl, kx_pre, kx_c2, kx_pl, kx_cmp, kx_oF, kx_eqN, kx_nil, kx_c1, kx_ft, kx_aI, kx_aL, kx_aR, kx_ln, Nat.reduceAdd, Option.toList, List.cons_append, List.nil_append, mW_o, mf_0, mf_42, m_119, mf_22]
          repeat (simp only [mu_0, mW_so, ms_119, nI_1, va_us, va_upn, ne_eq, Nat.reduceEqDiff, not_false_eq_true, va_upup, va_up3, pk_uu, show upd (upd M 0 0) 58 v 22 = nI sd from h22, zi1, nI_clamp (show (sd - 1 - i) % 200 < 2 ^ 31 by omega)]; try dsimp only [kx_wp, kx_step, kx_lI, kx_lL, kx_lA, kx_gl, kx_pI, kx_pL, kx_pR, kx_pA, kx_pV, kx_s1, kx_s2, kx_sl, kx_pre, kx_c2, kx_pl, kx_cmp, kx_oF, kx_eqN, kx_nil, kx_c1, kx_ft, kx_aI, kx_aL, kx_aR, kx_ln, Nat.reduceAdd, Option.toList, List.cons_append, List.nil_append, mW_o, mf_0, mf_42, m_119, mf_22])
          repeat' apply And.intro
          all_goals try (first | with_reducible assumption | (with_reducible refine ck_nzI ?_; simp; done) | (with_reducible refine ck_nzL ?_; simp; done) | (with_reducible refine vp_in_nI ?_ ?_ <;> first | omega | decide) | (with_reducible refine Nat.le_of_ble_eq_true ?_; rfl) | omega)
          refine hB bX11_witness_145 _ _ _ _ _ _ _ kX11_witness_145 ?_
          dsimp only [bX11_witness_145, kx_wp, kx_step, kx_lI, kx_lL, kx_lA, kx_gl, kx_pI, kx_pL, kx_pR, kx_pA, kx_pV, kx_s1, kx_s2, kx_sl, kx_pre, kx_c2, kx_pl, kx_cmp, kx_oF, kx_eqN, kx_nil, kx_c1, kx_ft, kx_aI, kx_aL, kx_aR, kx_ln, Nat.reduceAdd, Option.toList, List.cons_append, List.nil_append, mW_o, mf_0, mf_42, m_119, mf_22]
          repeat (simp only [mu_0, mW_so, ms_119, nI_1, va_us, va_upn, ne_eq, Nat.reduceEqDiff, not_false_eq_true, va_upup, va_up3, pk_uu, show upd (upd M 0 0) 58 v 22 = nI sd from h22, zi1, nI_clamp (show (sd - 1 - i) % 200 < 2 ^ 31 by omega)]; try dsimp only [kx_wp, kx_step, kx_lI, kx_lL, kx_lA, kx_gl, kx_pI, kx_pL, kx_pR, kx_pA, kx_pV, kx_s1, kx_s2, kx_sl, kx_pre, kx_c2, kx_pl, kx_cmp, kx_oF, kx_eqN, kx_nil, kx_c1, kx_ft, kx_aI, kx_aL, kx_aR, kx_ln, Nat.reduceAdd, Option.toList, List.cons_append, List.nil_append, mW_o, mf_0, mf_42, m_119, mf_22])
          repeat' apply And.intro
          all_goals try (first | with_reducible assumption | (with_reducible refine ck_nzI ?_; simp; done) | (with_reducible refine ck_nzL ?_; simp; done) | (with_reducible refine vp_in_nI ?_ ?_ <;> first | omega | decide) | (with_reducible refine Nat.le_of_ble_eq_true ?_; rfl) | omega)
          simp only [ze65, eq_true ze95, ↓reduceIte] at hE
          exact ih (i + 1) _ _ _ _ _ _ _ (by omega) (by first | exact hF | exact fun j hj => (ck_ho_out A x y _ sd hj _).1) (by first | exact hF2 | exact fun j hj => (ck_ho_out A x y _ sd hj _).2) hE
  refine hB bX11_witness_0 _ _ _ _ _ _ _ kX11_witness_0 ?_
  dsimp only [bX11_witness_0, kx_wp, kx_step, kx_lI, kx_lL, kx_lA, kx_gl, kx_pI, kx_pL, kx_pR, kx_pA, kx_pV, kx_s1, kx_s2, kx_sl, kx_pre, kx_c2, kx_pl, kx_cmp, kx_oF, kx_eqN, kx_nil, kx_c1, kx_ft, kx_aI, kx_aL, kx_aR, kx_ln, Nat.reduceAdd, Option.toList, List.cons_append, List.nil_append, mW_o, mf_0, mf_42, m_119, mf_22]
  repeat (simp only [mu_0, mW_so, ms_119, nI_1, va_us, va_upn, ne_eq, Nat.reduceEqDiff, not_false_eq_true, va_upup, va_up3, pk_uu]; try dsimp only [kx_wp, kx_step, kx_lI, kx_lL, kx_lA, kx_gl, kx_pI, kx_pL, kx_pR, kx_pA, kx_pV, kx_s1, kx_s2, kx_sl, kx_pre, kx_c2, kx_pl, kx_cmp, kx_oF, kx_eqN, kx_nil, kx_c1, kx_ft, kx_aI, kx_aL, kx_aR, kx_ln, Nat.reduceAdd, Option.toList, List.cons_append, List.nil_append, mW_o, mf_0, mf_42, m_119, mf_22])
  repeat' apply And.intro
  all_goals try (first | with_reducible assumption | (with_reducible refine ck_nzI ?_; simp; done) | (with_reducible refine ck_nzL ?_; simp; done) | (with_reducible refine vp_in_nI ?_ ?_ <;> first | omega | decide) | (with_reducible refine Nat.le_of_ble_eq_true ?_; rfl) | omega)
  refine hC.2.1 167 _ _ _ _ _ _ _ _ _ _ _ _ _ _ _ _ _ lX11_167 (ct_X11_within l G) rfl rfl (Nat.le_of_ble_eq_true rfl) (by decide) (by decide) (by omega) (by omega) dX11_witness_10 ?_
  rw [if_pos h1]
  refine hB bX11_witness_13 _ _ _ _ _ _ _ kX11_witness_13 ?_
  dsimp only [bX11_witness_13, kx_wp, kx_step, kx_lI, kx_lL, kx_lA, kx_gl, kx_pI, kx_pL, kx_pR, kx_pA, kx_pV, kx_s1, kx_s2, kx_sl, kx_pre, kx_c2, kx_pl, kx_cmp, kx_oF, kx_eqN, kx_nil, kx_c1, kx_ft, kx_aI, kx_aL, kx_aR, kx_ln, Nat.reduceAdd, Option.toList, List.cons_append, List.nil_append, mW_o, mf_0, mf_42, m_119, mf_22]
  repeat (simp only [mu_0, mW_so, ms_119, nI_1, va_us, va_upn, ne_eq, Nat.reduceEqDiff, not_false_eq_true, va_upup, va_up3, pk_uu]; try dsimp only [kx_wp, kx_step, kx_lI, kx_lL, kx_lA, kx_gl, kx_pI, kx_pL, kx_pR, kx_pA, kx_pV, kx_s1, kx_s2, kx_sl, kx_pre, kx_c2, kx_pl, kx_cmp, kx_oF, kx_eqN, kx_nil, kx_c1, kx_ft, kx_aI, kx_aL, kx_aR, kx_ln, Nat.reduceAdd, Option.toList, List.cons_append, List.nil_append, mW_o, mf_0, mf_42, m_119, mf_22])
  repeat' apply And.intro
  all_goals try (first | with_reducible assumption | (with_reducible refine ck_nzI ?_; simp; done) | (with_reducible refine ck_nzL ?_; simp; done) | (with_reducible refine vp_in_nI ?_ ?_ <;> first | omega | decide) | (with_reducible refine Nat.le_of_ble_eq_true ?_; rfl) | omega)
  · intro zc13
    first | exact absurd rfl zc13 | exact absurd zc13 (by decide) | exact absurd (by decide) zc13 | (exfalso; first | exact absurd zc13 (by decide) | exact absurd zc23 (by decide) | exact absurd zc33 (by decide)) | (exfalso; simp_all; done)
  · intro zc13
    have ze13 := zc13
    refine hB bX11_witness_16 _ _ _ _ _ _ _ kX11_witness_16 ?_
    dsimp only [bX11_witness_16, kx_wp, kx_step, kx_lI, kx_lL, kx_lA, kx_gl, kx_pI, kx_pL, kx_pR, kx_pA, kx_pV, kx_s1, kx_s2, kx_sl, kx_pre, kx_c2, kx_pl, kx_cmp, kx_oF, kx_eqN, kx_nil, kx_c1, kx_ft, kx_aI, kx_aL, kx_aR, kx_ln, Nat.reduceAdd, Option.toList, List.cons_append, List.nil_append, mW_o, mf_0, mf_42, m_119, mf_22]
    repeat (simp only [mu_0, mW_so, ms_119, nI_1, va_us, va_upn, ne_eq, Nat.reduceEqDiff, not_false_eq_true, va_upup, va_up3, pk_uu]; try dsimp only [kx_wp, kx_step, kx_lI, kx_lL, kx_lA, kx_gl, kx_pI, kx_pL, kx_pR, kx_pA, kx_pV, kx_s1, kx_s2, kx_sl, kx_pre, kx_c2, kx_pl, kx_cmp, kx_oF, kx_eqN, kx_nil, kx_c1, kx_ft, kx_aI, kx_aL, kx_aR, kx_ln, Nat.reduceAdd, Option.toList, List.cons_append, List.nil_append, mW_o, mf_0, mf_42, m_119, mf_22])
    repeat' apply And.intro
    all_goals try (first | with_reducible assumption | (with_reducible refine ck_nzI ?_; simp; done) | (with_reducible refine ck_nzL ?_; simp; done) | (with_reducible refine vp_in_nI ?_ ?_ <;> first | omega | decide) | (with_reducible refine Nat.le_of_ble_eq_true ?_; rfl) | omega)
    refine hC.2.1 167 _ _ _ _ _ _ _ _ _ _ _ _ _ _ _ _ _ lX11_167 (ct_X11_within l G) rfl rfl (Nat.le_of_ble_eq_true rfl) (by decide) (by decide) (by omega) (by omega) dX11_witness_20 ?_
    rw [if_pos h2]
    refine hB bX11_witness_23 _ _ _ _ _ _ _ kX11_witness_23 ?_
    dsimp only [bX11_witness_23, kx_wp, kx_step, kx_lI, kx_lL, kx_lA, kx_gl, kx_pI, kx_pL, kx_pR, kx_pA, kx_pV, kx_s1, kx_s2, kx_sl, kx_pre, kx_c2, kx_pl, kx_cmp, kx_oF, kx_eqN, kx_nil, kx_c1, kx_ft, kx_aI, kx_aL, kx_aR, kx_ln, Nat.reduceAdd, Option.toList, List.cons_append, List.nil_append, mW_o, mf_0, mf_42, m_119, mf_22]
    repeat (simp only [mu_0, mW_so, ms_119, nI_1, va_us, va_upn, ne_eq, Nat.reduceEqDiff, not_false_eq_true, va_upup, va_up3, pk_uu]; try dsimp only [kx_wp, kx_step, kx_lI, kx_lL, kx_lA, kx_gl, kx_pI, kx_pL, kx_pR, kx_pA, kx_pV, kx_s1, kx_s2, kx_sl, kx_pre, kx_c2, kx_pl, kx_cmp, kx_oF, kx_eqN, kx_nil, kx_c1, kx_ft, kx_aI, kx_aL, kx_aR, kx_ln, Nat.reduceAdd, Option.toList, List.cons_append, List.nil_append, mW_o, mf_0, mf_42, m_119, mf_22])
    repeat' apply And.intro
    all_goals try (first | with_reducible assumption | (with_reducible refine ck_nzI ?_; simp; done) | (with_reducible refine ck_nzL ?_; simp; done) | (with_reducible refine vp_in_nI ?_ ?_ <;> first | omega | decide) | (with_reducible refine Nat.le_of_ble_eq_true ?_; rfl) | omega)
    · intro zc23
      first | exact absurd rfl zc23 | exact absurd zc23 (by decide) | exact absurd (by decide) zc23 | (exfalso; first | exact absurd zc13 (by decide) | exact absurd zc23 (by decide) | exact absurd zc33 (by decide)) | (exfalso; simp_all; done)
    · intro zc23
      have ze23 := zc23
      refine hB bX11_witness_26 _ _ _ _ _ _ _ kX11_witness_26 ?_
      dsimp only [bX11_witness_26, kx_wp, kx_step, kx_lI, kx_lL, kx_lA, kx_gl, kx_pI, kx_pL, kx_pR, kx_pA, kx_pV, kx_s1, kx_s2, kx_sl, kx_pre, kx_c2, kx_pl, kx_cmp, kx_oF, kx_eqN, kx_nil, kx_c1, kx_ft, kx_aI, kx_aL, kx_aR, kx_ln, Nat.reduceAdd, Option.toList, List.cons_append, List.nil_append, mW_o, mf_0, mf_42, m_119, mf_22]
      repeat (simp only [mu_0, mW_so, ms_119, nI_1, va_us, va_upn, ne_eq, Nat.reduceEqDiff, not_false_eq_true, va_upup, va_up3, pk_uu]; try dsimp only [kx_wp, kx_step, kx_lI, kx_lL, kx_lA, kx_gl, kx_pI, kx_pL, kx_pR, kx_pA, kx_pV, kx_s1, kx_s2, kx_sl, kx_pre, kx_c2, kx_pl, kx_cmp, kx_oF, kx_eqN, kx_nil, kx_c1, kx_ft, kx_aI, kx_aL, kx_aR, kx_ln, Nat.reduceAdd, Option.toList, List.cons_append, List.nil_append, mW_o, mf_0, mf_42, m_119, mf_22])
      repeat' apply And.intro
      all_goals try (first | with_reducible assumption | (with_reducible refine ck_nzI ?_; simp; done) | (with_reducible refine ck_nzL ?_; simp; done) | (with_reducible refine vp_in_nI ?_ ?_ <;> first | omega | decide) | (with_reducible refine Nat.le_of_ble_eq_true ?_; rfl) | omega)
      refine hC.2.1 167 _ _ _ _ _ _ _ _ _ _ _ _ _ _ _ _ _ lX11_167 (ct_X11_within l G) rfl rfl (Nat.le_of_ble_eq_true rfl) (by decide) (by decide) (by omega) (by omega) dX11_witness_30 ?_
      rw [if_pos h3]
      refine hB bX11_witness_33 _ _ _ _ _ _ _ kX11_witness_33 ?_
      dsimp only [bX11_witness_33, kx_wp, kx_step, kx_lI, kx_lL, kx_lA, kx_gl, kx_pI, kx_pL, kx_pR, kx_pA, kx_pV, kx_s1, kx_s2, kx_sl, kx_pre, kx_c2, kx_pl, kx_cmp, kx_oF, kx_eqN, kx_nil, kx_c1, kx_ft, kx_aI, kx_aL, kx_aR, kx_ln, Nat.reduceAdd, Option.toList, List.cons_append, List.nil_append, mW_o, mf_0, mf_42, m_119, mf_22]
      repeat (simp only [mu_0, mW_so, ms_119, nI_1, va_us, va_upn, ne_eq, Nat.reduceEqDiff, not_false_eq_true, va_upup, va_up3, pk_uu]; try dsimp only [kx_wp, kx_step, kx_lI, kx_lL, kx_lA, kx_gl, kx_pI, kx_pL, kx_pR, kx_pA, kx_pV, kx_s1, kx_s2, kx_sl, kx_pre, kx_c2, kx_pl, kx_cmp, kx_oF, kx_eqN, kx_nil, kx_c1, kx_ft, kx_aI, kx_aL, kx_aR, kx_ln, Nat.reduceAdd, Option.toList, List.cons_append, List.nil_append, mW_o, mf_0, mf_42, m_119, mf_22])
      repeat' apply And.intro
      all_goals try (first | with_reducible assumption | (with_reducible refine ck_nzI ?_; simp; done) | (with_reducible refine ck_nzL ?_; simp; done) | (with_reducible refine vp_in_nI ?_ ?_ <;> first | omega | decide) | (with_reducible refine Nat.le_of_ble_eq_true ?_; rfl) | omega)
      · intro zc33
        first | exact absurd rfl zc33 | exact absurd zc33 (by decide) | exact absurd (by decide) zc33 | (exfalso; first | exact absurd zc13 (by decide) | exact absurd zc23 (by decide) | exact absurd zc33 (by decide)) | (exfalso; simp_all; done)
      · intro zc33
        have ze33 := zc33
        refine hB bX11_witness_36 _ _ _ _ _ _ _ kX11_witness_36 ?_
        dsimp only [bX11_witness_36, kx_wp, kx_step, kx_lI, kx_lL, kx_lA, kx_gl, kx_pI, kx_pL, kx_pR, kx_pA, kx_pV, kx_s1, kx_s2, kx_sl, kx_pre, kx_c2, kx_pl, kx_cmp, kx_oF, kx_eqN, kx_nil, kx_c1, kx_ft, kx_aI, kx_aL, kx_aR, kx_ln, Nat.reduceAdd, Option.toList, List.cons_append, List.nil_append, mW_o, mf_0, mf_42, m_119, mf_22]
        repeat (simp only [mu_0, mW_so, ms_119, nI_1, va_us, va_upn, ne_eq, Nat.reduceEqDiff, not_false_eq_true, va_upup, va_up3, pk_uu]; try dsimp only [kx_wp, kx_step, kx_lI, kx_lL, kx_lA, kx_gl, kx_pI, kx_pL, kx_pR, kx_pA, kx_pV, kx_s1, kx_s2, kx_sl, kx_pre, kx_c2, kx_pl, kx_cmp, kx_oF, kx_eqN, kx_nil, kx_c1, kx_ft, kx_aI, kx_aL, kx_aR, kx_ln, Nat.reduceAdd, Option.toList, List.cons_append, List.nil_append, mW_o, mf_0, mf_42, m_119, mf_22])
        repeat' apply And.intro
        all_goals try (first | with_reducible assumption | (with_reducible refine ck_nzI ?_; simp; done) | (with_reducible refine ck_nzL ?_; simp; done) | (with_reducible refine vp_in_nI ?_ ?_ <;> first | omega | decide) | (with_reducible refine Nat.le_of_ble_eq_true ?_; rfl) | omega)
        refine hB bX11_witness_41 _ _ _ _ _ _ _ kX11_witness_41 ?_
        dsimp only [bX11_witness_41, kx_wp, kx_step, kx_lI, kx_lL, kx_lA, kx_gl, kx_pI, kx_pL, kx_pR, kx_pA, kx_pV, kx_s1, kx_s2, kx_sl, kx_pre, kx_c2, kx_pl, kx_cmp, kx_oF, kx_eqN, kx_nil, kx_c1, kx_ft, kx_aI, kx_aL, kx_aR, kx_ln, Nat.reduceAdd, Option.toList, List.cons_append, List.nil_append, mW_o, mf_0, mf_42, m_119, mf_22]
        repeat (simp only [mu_0, mW_so, ms_119, nI_1, va_us, va_upn, ne_eq, Nat.reduceEqDiff, not_false_eq_true, va_upup, va_up3, pk_uu]; try dsimp only [kx_wp, kx_step, kx_lI, kx_lL, kx_lA, kx_gl, kx_pI, kx_pL, kx_pR, kx_pA, kx_pV, kx_s1, kx_s2, kx_sl, kx_pre, kx_c2, kx_pl, kx_cmp, kx_oF, kx_eqN, kx_nil, kx_c1, kx_ft, kx_aI, kx_aL, kx_aR, kx_ln, Nat.reduceAdd, Option.toList, List.cons_append, List.nil_append, mW_o, mf_0, mf_42, m_119, mf_22])
        repeat' apply And.intro
        all_goals try (first | with_reducible assumption | (with_reducible refine ck_nzI ?_; simp; done) | (with_reducible refine ck_nzL ?_; simp; done) | (with_reducible refine vp_in_nI ?_ ?_ <;> first | omega | decide) | (with_reducible refine Nat.le_of_ble_eq_true ?_; rfl) | omega)
        refine hC.1 171 _ _ _ _ _ _ _ 11 _ _ _ _ _ _ _ _ _ _ _ _ lX11_171 (ct_X11_may_t l G (M := upd M 0 0) rfl) ⟨by decide, rfl⟩ (mW_o) rfl rfl (Nat.le_of_ble_eq_true rfl) (by decide) (by decide) (by omega) (by omega) dX11_witness_42 ?_
        refine hB bX11_witness_45 _ _ _ _ _ _ _ kX11_witness_45 ?_
        dsimp only [bX11_witness_45, kx_wp, kx_step, kx_lI, kx_lL, kx_lA, kx_gl, kx_pI, kx_pL, kx_pR, kx_pA, kx_pV, kx_s1, kx_s2, kx_sl, kx_pre, kx_c2, kx_pl, kx_cmp, kx_oF, kx_eqN, kx_nil, kx_c1, kx_ft, kx_aI, kx_aL, kx_aR, kx_ln, Nat.reduceAdd, Option.toList, List.cons_append, List.nil_append, mW_o, mf_0, mf_42, m_119, mf_22]
        repeat (simp only [mu_0, mW_so, ms_119, nI_1, va_us, va_upn, ne_eq, Nat.reduceEqDiff, not_false_eq_true, va_upup, va_up3, pk_uu]; try dsimp only [kx_wp, kx_step, kx_lI, kx_lL, kx_lA, kx_gl, kx_pI, kx_pL, kx_pR, kx_pA, kx_pV, kx_s1, kx_s2, kx_sl, kx_pre, kx_c2, kx_pl, kx_cmp, kx_oF, kx_eqN, kx_nil, kx_c1, kx_ft, kx_aI, kx_aL, kx_aR, kx_ln, Nat.reduceAdd, Option.toList, List.cons_append, List.nil_append, mW_o, mf_0, mf_42, m_119, mf_22])
        repeat' apply And.intro
        all_goals try (first | with_reducible assumption | (with_reducible refine ck_nzI ?_; simp; done) | (with_reducible refine ck_nzL ?_; simp; done) | (with_reducible refine vp_in_nI ?_ ?_ <;> first | omega | decide) | (with_reducible refine Nat.le_of_ble_eq_true ?_; rfl) | omega)
        · intro zc45
          have ze45 := zc45
          refine hB bX11_witness_50 _ _ _ _ _ _ _ kX11_witness_50 ?_
          dsimp only [bX11_witness_50, kx_wp, kx_step, kx_lI, kx_lL, kx_lA, kx_gl, kx_pI, kx_pL, kx_pR, kx_pA, kx_pV, kx_s1, kx_s2, kx_sl, kx_pre, kx_c2, kx_pl, kx_cmp, kx_oF, kx_eqN, kx_nil, kx_c1, kx_ft, kx_aI, kx_aL, kx_aR, kx_ln, Nat.reduceAdd, Option.toList, List.cons_append, List.nil_append, mW_o, mf_0, mf_42, m_119, mf_22]
          repeat (simp only [mu_0, mW_so, ms_119, nI_1, va_us, va_upn, ne_eq, Nat.reduceEqDiff, not_false_eq_true, va_upup, va_up3, pk_uu]; try dsimp only [kx_wp, kx_step, kx_lI, kx_lL, kx_lA, kx_gl, kx_pI, kx_pL, kx_pR, kx_pA, kx_pV, kx_s1, kx_s2, kx_sl, kx_pre, kx_c2, kx_pl, kx_cmp, kx_oF, kx_eqN, kx_nil, kx_c1, kx_ft, kx_aI, kx_aL, kx_aR, kx_ln, Nat.reduceAdd, Option.toList, List.cons_append, List.nil_append, mW_o, mf_0, mf_42, m_119, mf_22])
          repeat' apply And.intro
          all_goals try (first | with_reducible assumption | (with_reducible refine ck_nzI ?_; simp; done) | (with_reducible refine ck_nzL ?_; simp; done) | (with_reducible refine vp_in_nI ?_ ?_ <;> first | omega | decide) | (with_reducible refine Nat.le_of_ble_eq_true ?_; rfl) | omega)
          have ze := loop59 (min sd 200) 0 0 (-1) (M 58) (A 124) (A 125) none none (by omega) (fun _ _ => rfl) (fun _ _ => rfl) hWW
          rw [show va_up (va_up A 124 (A 124)) 125 (A 125) = A by rw [va_upself]; exact va_upself, show upd (upd M 0 0) 58 (M 58) = upd M 0 0 from ck_upself (f := upd M 0 0) (c := 58)] at ze
          exact ze
        · intro zc45
          first | exact absurd rfl zc45 | exact absurd zc45 (by decide) | exact absurd (by decide) zc45 | (exfalso; first | exact absurd zc13 (by decide) | exact absurd zc23 (by decide) | exact absurd zc33 (by decide)) | (exfalso; simp_all; done)


def ck_lpwT (T : Nat → Int32) (n : Nat) (U : ck_R → ck_R) (S : ck_R) : ck_R := ck_lpw T n U (n - (U S).1) (U S)
def bX8_readProduct_0 : List kx_O := [(.aload_n 0, 0, 0, 0, .null)]
theorem kX8_readProduct_0 : kx_oks kxL_X8 false cX8_readProduct 0 bX8_readProduct_0 = true := by decide +kernel
def bX8_readProduct_4 : List kx_O := [(.istore_n 1, 1, 0, 0, .null), (.iconst 0, 0, 0, 0, .int 0), (.istore_n 2, 2, 0, 0, .null)]
theorem kX8_readProduct_4 : kx_oks kxL_X8 false cX8_readProduct 4 bX8_readProduct_4 = true := by decide +kernel
def bX8_readProduct_7 : List kx_O := [(.iload_n 1, 1, 0, 0, .null), (.ifCond .eq 115, 123, 0, 0, .null)]
theorem kX8_readProduct_7 : kx_oks kxL_X8 false cX8_readProduct 7 bX8_readProduct_7 = true := by decide +kernel
def bX8_readProduct_11 : List kx_O := [(.iload_n 2, 2, 0, 0, .null), (.sipush 400, 0, 0, 0, .int 400), (.if_icmp .ge 108, 123, 0, 0, .null)]
theorem kX8_readProduct_11 : kx_oks kxL_X8 false cX8_readProduct 11 bX8_readProduct_11 = true := by decide +kernel
def bX8_readProduct_18 : List kx_O := [(.aload_n 0, 0, 0, 0, .null), (.bipush 42, 0, 0, 0, .int 42)]
theorem kX8_readProduct_18 : kx_oks kxL_X8 false cX8_readProduct 18 bX8_readProduct_18 = true := by decide +kernel
def bX8_readProduct_24 : List kx_O := [(.ifCond .ne 21, 45, 0, 0, .null)]
theorem kX8_readProduct_24 : kx_oks kxL_X8 false cX8_readProduct 24 bX8_readProduct_24 = true := by decide +kernel
def bX8_readProduct_27 : List kx_O := [(.aload_n 0, 0, 0, 0, .null), (.bipush 47, 0, 0, 0, .int 47)]
theorem kX8_readProduct_27 : kx_oks kxL_X8 false cX8_readProduct 27 bX8_readProduct_27 = true := by decide +kernel
def bX8_readProduct_33 : List kx_O := [(.ifCond .ne 12, 45, 0, 0, .null)]
theorem kX8_readProduct_33 : kx_oks kxL_X8 false cX8_readProduct 33 bX8_readProduct_33 = true := by decide +kernel
def bX8_readProduct_36 : List kx_O := [(.aload_n 0, 0, 0, 0, .null), (.bipush 37, 0, 0, 0, .int 37)]
theorem kX8_readProduct_36 : kx_oks kxL_X8 false cX8_readProduct 36 bX8_readProduct_36 = true := by decide +kernel
def bX8_readProduct_42 : List kx_O := [(.ifCond .eq 81, 123, 0, 0, .null)]
theorem kX8_readProduct_42 : kx_oks kxL_X8 false cX8_readProduct 42 bX8_readProduct_42 = true := by decide +kernel
def bX8_readProduct_45 : List kx_O := [(.bipush (-8), 0, 0, 0, .int (-8)), (.istore_n 3, 3, 0, 0, .null), (.aload_n 0, 0, 0, 0, .null), (.getfield 15, 8, 0, 0, .null), (.aload_n 0, 0, 0, 0, .null), (.getfield 28, 8, 2, 0, .null), (.iaload, 0, 0, 0, .null), (.bipush 42, 0, 0, 0, .int 42), (.if_icmp .ne 9, 68, 0, 0, .null)]
theorem kX8_readProduct_45 : kx_oks kxL_X8 false cX8_readProduct 45 bX8_readProduct_45 = true := by decide +kernel
def bX8_readProduct_62 : List kx_O := [(.bipush (-6), 0, 0, 0, .int (-6)), (.istore_n 3, 3, 0, 0, .null), (.goto 20, 85, 0, 0, .null)]
theorem kX8_readProduct_62 : kx_oks kxL_X8 false cX8_readProduct 62 bX8_readProduct_62 = true := by decide +kernel
def bX8_readProduct_68 : List kx_O := [(.aload_n 0, 0, 0, 0, .null), (.getfield 15, 8, 0, 0, .null), (.aload_n 0, 0, 0, 0, .null), (.getfield 28, 8, 2, 0, .null), (.iaload, 0, 0, 0, .null), (.bipush 47, 0, 0, 0, .int 47), (.if_icmp .ne 6, 85, 0, 0, .null)]
theorem kX8_readProduct_68 : kx_oks kxL_X8 false cX8_readProduct 68 bX8_readProduct_68 = true := by decide +kernel
def bX8_readProduct_82 : List kx_O := [(.bipush (-7), 0, 0, 0, .int (-7)), (.istore_n 3, 3, 0, 0, .null)]
theorem kX8_readProduct_82 : kx_oks kxL_X8 false cX8_readProduct 82 bX8_readProduct_82 = true := by decide +kernel
def bX8_readProduct_85 : List kx_O := [(.aload_n 0, 0, 0, 0, .null), (.iconst 1, 0, 0, 0, .int 1)]
theorem kX8_readProduct_85 : kx_oks kxL_X8 false cX8_readProduct 85 bX8_readProduct_85 = true := by decide +kernel
def bX8_readProduct_90 : List kx_O := [(.aload_n 0, 0, 0, 0, .null)]
theorem kX8_readProduct_90 : kx_oks kxL_X8 false cX8_readProduct 90 bX8_readProduct_90 = true := by decide +kernel
def bX8_readProduct_94 : List kx_O := [(.ifCond .eq 21, 115, 0, 0, .null)]
theorem kX8_readProduct_94 : kx_oks kxL_X8 false cX8_readProduct 94 bX8_readProduct_94 = true := by decide +kernel
def bX8_readProduct_97 : List kx_O := [(.aload_n 0, 0, 0, 0, .null), (.getfield 37, 8, 9, 0, .null), (.getfield 206, 9, 16, 0, .null), (.iload_n 3, 3, 0, 0, .null)]
theorem kX8_readProduct_97 : kx_oks kxL_X8 false cX8_readProduct 97 bX8_readProduct_97 = true := by decide +kernel
def bX8_readProduct_108 : List kx_O := [(.ifCond .eq 7, 115, 0, 0, .null)]
theorem kX8_readProduct_108 : kx_oks kxL_X8 false cX8_readProduct 108 bX8_readProduct_108 = true := by decide +kernel
def bX8_readProduct_111 : List kx_O := [(.iconst 1, 0, 0, 0, .int 1), (.goto 4, 116, 0, 0, .null)]
theorem kX8_readProduct_111 : kx_oks kxL_X8 false cX8_readProduct 111 bX8_readProduct_111 = true := by decide +kernel
def bX8_readProduct_115 : List kx_O := [(.iconst 0, 0, 0, 0, .int 0)]
theorem kX8_readProduct_115 : kx_oks kxL_X8 false cX8_readProduct 115 bX8_readProduct_115 = true := by decide +kernel
def bX8_readProduct_116 : List kx_O := [(.istore_n 1, 1, 0, 0, .null), (.iinc 2 1, 2, 0, 0, .int 1), (.goto (-113), 7, 0, 0, .null)]
theorem kX8_readProduct_116 : kx_oks kxL_X8 false cX8_readProduct 116 bX8_readProduct_116 = true := by decide +kernel
def bX8_readProduct_123 : List kx_O := [(.iload_n 1, 1, 0, 0, .null), (.ireturn, 0, 0, 0, .null)]
theorem kX8_readProduct_123 : kx_oks kxL_X8 false cX8_readProduct 123 bX8_readProduct_123 = true := by decide +kernel
theorem dX8_readProduct_1 : decode cX8_readProduct 1 = .ok (.invokevirtual 212, 3) := by decide +kernel
theorem dX8_readProduct_21 : decode cX8_readProduct 21 = .ok (.invokevirtual 54, 3) := by decide +kernel
theorem dX8_readProduct_30 : decode cX8_readProduct 30 = .ok (.invokevirtual 54, 3) := by decide +kernel
theorem dX8_readProduct_39 : decode cX8_readProduct 39 = .ok (.invokevirtual 54, 3) := by decide +kernel
theorem dX8_readProduct_87 : decode cX8_readProduct 87 = .ok (.invokevirtual 46, 3) := by decide +kernel
theorem dX8_readProduct_91 : decode cX8_readProduct 91 = .ok (.invokevirtual 212, 3) := by decide +kernel
theorem dX8_readProduct_105 : decode cX8_readProduct 105 = .ok (.invokevirtual 209, 3) := by decide +kernel
set_option maxRecDepth 100000 in
set_option maxHeartbeats 4000000 in
theorem cp_pr (l : Launch) (G : kx_G) {P : kx_P} {sz : Nat} {Q : kx_P} {w : Nat} (hw : 144 ≤ w) {T V : Nat → Int32} (hT : Q 67 = kI 0 400 T) (hQ : Q w = kO 9 (kf (cr9 w) V)) {n : Nat} (hn : n ≤ 400) {N d d2 : Nat} (hdd : 7 ≤ d) (hd2 : d2 < d) {U : ck_R → ck_R} (hUg : ck_gd n U) (hUs : ck_st U) (hU : ∀ S : ck_R, S.2.1 = -1 → ck_sl n 0 S → ck_lv N S → cx_W l G sX8_readUnit d2 Q w T n [] S (U S) sz) {S : ck_R} (hs : S.2.1 = -1) (hsl : ck_sl n 0 S) (hlv : ck_lv N S) {F Fo st : Nat → Int32} (he : cx_E T n S F Fo st)  : kx_Mn l G sX8_readProduct d 0 0 [.ref 68] (cx_8 (cx_fW Q w Fo st) (.ref w) F) sz (cx_PE Q w T n (ck_te T n U S) sz) := by
  have hUS := hUg 0 S hsl
  refine kz_m2 kx_tab kxLok_X8 (ini := false) [some (.ref 68), none, none, none] ⟨by decide +kernel, rfl, by decide, by omega⟩ (fun _ _ _ h => Or.inl h.rok) rfl rfl (fun g hB hC hN hK => ?_)
  have loop7 : ∀ (n9 : Nat) (S1 : ck_R) (F1 Fo1 st1 : Nat → Int32) (i : Nat) (z3 : Option Value), (S1.2.1 = -1 → cx_E T n S1 F1 Fo1 st1) → (¬ S1.2.1 = -1 → cx_X S1 F1) → ck_sl n 0 S1 → ck_lv N S1 → (S1.2.1 = -1 → n - S1.1 ≤ n9) → i + n9 ≤ 400 → ck_lpt T n U n9 S1 = ck_te T n U S → g 7 [some (.ref 68), some (.int (cx_b S1)), some (.int (nI i)), z3] [] (cx_8 (cx_fW Q w Fo1 st1) (.ref w) F1) sz 0 0 := by
    intro n9
    induction n9 with
    | zero =>
      intro S1 F1 Fo1 st1 i z3 hE hX hsl1 hlv1 hnn hi9 he9
      have hcase : (¬ S1.2.1 = -1) ∨ (S1.2.1 = -1 ∧ ¬ (ck_hcx T n S1.1 = 42 ∨ ck_hcx T n S1.1 = 47 ∨ ck_hcx T n S1.1 = 37)) := by
        by_cases hg : S1.2.1 = -1
        · refine Or.inr ⟨hg, fun q => ?_⟩
          have hlt : ck_sk T n S1.1 < n := by
            rcases q with q | q | q <;> exact cx_nx_lt q (by decide)
          have := ck_sk_le T hsl1.1
          have := hnn hg
          omega
        · exact Or.inl hg
      rcases hcase with hg | ⟨hg, hno⟩
      · rw [cx_b0 hg]
        have hR : ck_te T n U S = S1 := he9.symm.trans (ck_lpt_st _ S1 hg)
        refine hB bX8_readProduct_7 _ _ _ _ _ _ _ kX8_readProduct_7 ?_
        dsimp only [bX8_readProduct_7, kx_wp, kx_step, kx_lI, kx_lL, kx_lA, kx_gl, kx_pI, kx_pL, kx_pR, kx_pA, kx_pV, kx_s1, kx_s2, kx_sl, kx_pre, kx_c2, kx_pl, kx_cmp, kx_oF, kx_eqN, kx_nil, kx_c1, kx_ft, kx_aI, kx_aL, kx_aR, kx_ln, Nat.reduceAdd, Option.toList, List.cons_append, List.nil_append, cf8_0, cf8_2, cf8_9, cf9_16]
        repeat (simp only [cx_8w0 hw, cx_8o, cx_83 hw, cx_84 hw, hQ, hs, pk_us, pk_un, ne_eq, Nat.reduceEqDiff, not_false_eq_true, hE.2.1, cx_8n (show ¬ (67:Nat) = 68 by decide), cx_f67 hw, hT, nI_clamp (show ck_sk T n S1.1 < 2 ^ 31 by omega), nI_1, ks_eq, ks_ss]; try dsimp only [kx_wp, kx_step, kx_lI, kx_lL, kx_lA, kx_gl, kx_pI, kx_pL, kx_pR, kx_pA, kx_pV, kx_s1, kx_s2, kx_sl, kx_pre, kx_c2, kx_pl, kx_cmp, kx_oF, kx_eqN, kx_nil, kx_c1, kx_ft, kx_aI, kx_aL, kx_aR, kx_ln, Nat.reduceAdd, Option.toList, List.cons_append, List.nil_append, cf8_0, cf8_2, cf8_9, cf9_16])
        repeat' apply And.intro
        all_goals try (first | with_reducible assumption | (with_reducible refine ck_nzI ?_; simp; done) | (with_reducible refine ck_nzL ?_; simp; done) | (with_reducible refine vp_in_nI ?_ ?_ <;> first | omega | decide) | (with_reducible refine Nat.le_of_ble_eq_true ?_; rfl) | omega | exact Or.inl trivial | exact Or.inr trivial | exact Or.inl rfl | exact Or.inr rfl)
        · intro zc8
          have ze8 := zc8
          refine hB bX8_readProduct_123 _ _ _ _ _ _ _ kX8_readProduct_123 ?_
          dsimp only [bX8_readProduct_123, kx_wp, kx_step, kx_lI, kx_lL, kx_lA, kx_gl, kx_pI, kx_pL, kx_pR, kx_pA, kx_pV, kx_s1, kx_s2, kx_sl, kx_pre, kx_c2, kx_pl, kx_cmp, kx_oF, kx_eqN, kx_nil, kx_c1, kx_ft, kx_aI, kx_aL, kx_aR, kx_ln, Nat.reduceAdd, Option.toList, List.cons_append, List.nil_append, cf8_0, cf8_2, cf8_9, cf9_16]
          repeat (simp only [cx_8w0 hw, cx_8o, cx_83 hw, cx_84 hw, hQ, hs, pk_us, pk_un, ne_eq, Nat.reduceEqDiff, not_false_eq_true, hE.2.1, cx_8n (show ¬ (67:Nat) = 68 by decide), cx_f67 hw, hT, nI_clamp (show ck_sk T n S1.1 < 2 ^ 31 by omega), nI_1, ks_eq, ks_ss]; try dsimp only [kx_wp, kx_step, kx_lI, kx_lL, kx_lA, kx_gl, kx_pI, kx_pL, kx_pR, kx_pA, kx_pV, kx_s1, kx_s2, kx_sl, kx_pre, kx_c2, kx_pl, kx_cmp, kx_oF, kx_eqN, kx_nil, kx_c1, kx_ft, kx_aI, kx_aL, kx_aR, kx_ln, Nat.reduceAdd, Option.toList, List.cons_append, List.nil_append, cf8_0, cf8_2, cf8_9, cf9_16])
          all_goals (repeat' apply And.intro)
          all_goals (rw [hR]; first | exact cx_PE.f hg (hX hg) | exact cx_PE.t hg hER)
        · intro zc8
          first | exact absurd rfl zc8 | exact absurd zc8 (by decide) | exact absurd (by decide) zc8 | (exfalso; first | exact absurd ((nI_leI (a := 400) (b := i) (by omega) (by omega)).mp zc15) (by omega) | exact zc59 hTs | exact zc59 (by rw [hTs]; decide) | exact zc79 hTs | exact zc79 (by rw [hTs]; decide)) | (exfalso; simp_all; done)
      · rw [cx_b1 hg]
        have hle := ck_sk_le T hsl1.1
        have hE := hE hg
        have hTf : cx_fW Q w Fo1 st1 67 = kI 0 400 T := (cx_f67 hw).trans hT
        have hR : ck_te T n U S = (ck_sk T n S1.1, S1.2) := by
          rw [← he9]
          show ck_ex T n S1 = _
          unfold ck_ex
          rw [if_pos hg]
        have hER : cx_E T n (ck_sk T n S1.1, S1.2) F1 Fo1 st1 := ⟨hE.1, by rw [ck_skk]; exact hE.2.1, hE.2.2.1, hE.2.2.2.1, hE.2.2.2.2.1, hE.2.2.2.2.2.1, hE.2.2.2.2.2.2⟩
        have hn42 := ct_X8_nextIs_f (l := l) (G := G) (sz := sz) (x := .ref w) hTf hE.1 hn hE.2.1 hle.2 (ch := 42) (by decide) (fun q => hno ((fun z => Or.inl <| z) q))
        have hn47 := ct_X8_nextIs_f (l := l) (G := G) (sz := sz) (x := .ref w) hTf hE.1 hn hE.2.1 hle.2 (ch := 47) (by decide) (fun q => hno ((fun z => Or.inr <| Or.inl <| z) q))
        have hn37 := ct_X8_nextIs_f (l := l) (G := G) (sz := sz) (x := .ref w) hTf hE.1 hn hE.2.1 hle.2 (ch := 37) (by decide) (fun q => hno ((fun z => Or.inr <| Or.inr <| z) q))
        refine hB bX8_readProduct_7 _ _ _ _ _ _ _ kX8_readProduct_7 ?_
        dsimp only [bX8_readProduct_7, kx_wp, kx_step, kx_lI, kx_lL, kx_lA, kx_gl, kx_pI, kx_pL, kx_pR, kx_pA, kx_pV, kx_s1, kx_s2, kx_sl, kx_pre, kx_c2, kx_pl, kx_cmp, kx_oF, kx_eqN, kx_nil, kx_c1, kx_ft, kx_aI, kx_aL, kx_aR, kx_ln, Nat.reduceAdd, Option.toList, List.cons_append, List.nil_append, cf8_0, cf8_2, cf8_9, cf9_16]
        repeat (simp only [cx_8w0 hw, cx_8o, cx_83 hw, cx_84 hw, hQ, hs, pk_us, pk_un, ne_eq, Nat.reduceEqDiff, not_false_eq_true, hE.2.1, cx_8n (show ¬ (67:Nat) = 68 by decide), cx_f67 hw, hT, nI_clamp (show ck_sk T n S1.1 < 2 ^ 31 by omega), nI_1, ks_eq, ks_ss]; try dsimp only [kx_wp, kx_step, kx_lI, kx_lL, kx_lA, kx_gl, kx_pI, kx_pL, kx_pR, kx_pA, kx_pV, kx_s1, kx_s2, kx_sl, kx_pre, kx_c2, kx_pl, kx_cmp, kx_oF, kx_eqN, kx_nil, kx_c1, kx_ft, kx_aI, kx_aL, kx_aR, kx_ln, Nat.reduceAdd, Option.toList, List.cons_append, List.nil_append, cf8_0, cf8_2, cf8_9, cf9_16])
        repeat' apply And.intro
        all_goals try (first | with_reducible assumption | (with_reducible refine ck_nzI ?_; simp; done) | (with_reducible refine ck_nzL ?_; simp; done) | (with_reducible refine vp_in_nI ?_ ?_ <;> first | omega | decide) | (with_reducible refine Nat.le_of_ble_eq_true ?_; rfl) | omega | exact Or.inl trivial | exact Or.inr trivial | exact Or.inl rfl | exact Or.inr rfl)
        · intro zc8
          first | exact absurd rfl zc8 | exact absurd zc8 (by decide) | exact absurd (by decide) zc8 | (exfalso; first | exact absurd ((nI_leI (a := 400) (b := i) (by omega) (by omega)).mp zc15) (by omega) | exact zc59 hTs | exact zc59 (by rw [hTs]; decide) | exact zc79 hTs | exact zc79 (by rw [hTs]; decide)) | (exfalso; simp_all; done)
        · intro zc8
          have ze8 := zc8
          refine hB bX8_readProduct_11 _ _ _ _ _ _ _ kX8_readProduct_11 ?_
          dsimp only [bX8_readProduct_11, kx_wp, kx_step, kx_lI, kx_lL, kx_lA, kx_gl, kx_pI, kx_pL, kx_pR, kx_pA, kx_pV, kx_s1, kx_s2, kx_sl, kx_pre, kx_c2, kx_pl, kx_cmp, kx_oF, kx_eqN, kx_nil, kx_c1, kx_ft, kx_aI, kx_aL, kx_aR, kx_ln, Nat.reduceAdd, Option.toList, List.cons_append, List.nil_append, cf8_0, cf8_2, cf8_9, cf9_16]
          repeat (simp only [cx_8w0 hw, cx_8o, cx_83 hw, cx_84 hw, hQ, hs, pk_us, pk_un, ne_eq, Nat.reduceEqDiff, not_false_eq_true, hE.2.1, cx_8n (show ¬ (67:Nat) = 68 by decide), cx_f67 hw, hT, nI_clamp (show ck_sk T n S1.1 < 2 ^ 31 by omega), nI_1, ks_eq, ks_ss]; try dsimp only [kx_wp, kx_step, kx_lI, kx_lL, kx_lA, kx_gl, kx_pI, kx_pL, kx_pR, kx_pA, kx_pV, kx_s1, kx_s2, kx_sl, kx_pre, kx_c2, kx_pl, kx_cmp, kx_oF, kx_eqN, kx_nil, kx_c1, kx_ft, kx_aI, kx_aL, kx_aR, kx_ln, Nat.reduceAdd, Option.toList, List.cons_append, List.nil_append, cf8_0, cf8_2, cf8_9, cf9_16])
          repeat' apply And.intro
          all_goals try (first | with_reducible assumption | (with_reducible refine ck_nzI ?_; simp; done) | (with_reducible refine ck_nzL ?_; simp; done) | (with_reducible refine vp_in_nI ?_ ?_ <;> first | omega | decide) | (with_reducible refine Nat.le_of_ble_eq_true ?_; rfl) | omega | exact Or.inl trivial | exact Or.inr trivial | exact Or.inl rfl | exact Or.inr rfl)
          · intro zc15
            with_reducible first | have ze15 := Int32.not_lt.mpr zc15 | have ze15 := zc15
            refine hB bX8_readProduct_123 _ _ _ _ _ _ _ kX8_readProduct_123 ?_
            dsimp only [bX8_readProduct_123, kx_wp, kx_step, kx_lI, kx_lL, kx_lA, kx_gl, kx_pI, kx_pL, kx_pR, kx_pA, kx_pV, kx_s1, kx_s2, kx_sl, kx_pre, kx_c2, kx_pl, kx_cmp, kx_oF, kx_eqN, kx_nil, kx_c1, kx_ft, kx_aI, kx_aL, kx_aR, kx_ln, Nat.reduceAdd, Option.toList, List.cons_append, List.nil_append, cf8_0, cf8_2, cf8_9, cf9_16]
            repeat (simp only [cx_8w0 hw, cx_8o, cx_83 hw, cx_84 hw, hQ, hs, pk_us, pk_un, ne_eq, Nat.reduceEqDiff, not_false_eq_true, hE.2.1, cx_8n (show ¬ (67:Nat) = 68 by decide), cx_f67 hw, hT, nI_clamp (show ck_sk T n S1.1 < 2 ^ 31 by omega), nI_1, ks_eq, ks_ss]; try dsimp only [kx_wp, kx_step, kx_lI, kx_lL, kx_lA, kx_gl, kx_pI, kx_pL, kx_pR, kx_pA, kx_pV, kx_s1, kx_s2, kx_sl, kx_pre, kx_c2, kx_pl, kx_cmp, kx_oF, kx_eqN, kx_nil, kx_c1, kx_ft, kx_aI, kx_aL, kx_aR, kx_ln, Nat.reduceAdd, Option.toList, List.cons_append, List.nil_append, cf8_0, cf8_2, cf8_9, cf9_16])
            all_goals (repeat' apply And.intro)
            all_goals (rw [hR]; first | exact cx_PE.f hg (hX hg) | exact cx_PE.t hg hER)
          · intro zc15
            with_reducible first | have ze15 := Int32.not_le.mp zc15 | have ze15 := zc15
            refine hB bX8_readProduct_18 _ _ _ _ _ _ _ kX8_readProduct_18 ?_
            dsimp only [bX8_readProduct_18, kx_wp, kx_step, kx_lI, kx_lL, kx_lA, kx_gl, kx_pI, kx_pL, kx_pR, kx_pA, kx_pV, kx_s1, kx_s2, kx_sl, kx_pre, kx_c2, kx_pl, kx_cmp, kx_oF, kx_eqN, kx_nil, kx_c1, kx_ft, kx_aI, kx_aL, kx_aR, kx_ln, Nat.reduceAdd, Option.toList, List.cons_append, List.nil_append, cf8_0, cf8_2, cf8_9, cf9_16]
            repeat (simp only [cx_8w0 hw, cx_8o, cx_83 hw, cx_84 hw, hQ, hs, pk_us, pk_un, ne_eq, Nat.reduceEqDiff, not_false_eq_true, hE.2.1, cx_8n (show ¬ (67:Nat) = 68 by decide), cx_f67 hw, hT, nI_clamp (show ck_sk T n S1.1 < 2 ^ 31 by omega), nI_1, ks_eq, ks_ss]; try dsimp only [kx_wp, kx_step, kx_lI, kx_lL, kx_lA, kx_gl, kx_pI, kx_pL, kx_pR, kx_pA, kx_pV, kx_s1, kx_s2, kx_sl, kx_pre, kx_c2, kx_pl, kx_cmp, kx_oF, kx_eqN, kx_nil, kx_c1, kx_ft, kx_aI, kx_aL, kx_aR, kx_ln, Nat.reduceAdd, Option.toList, List.cons_append, List.nil_append, cf8_0, cf8_2, cf8_9, cf9_16])
            repeat' apply And.intro
            all_goals try (first | with_reducible assumption | (with_reducible refine ck_nzI ?_; simp; done) | (with_reducible refine ck_nzL ?_; simp; done) | (with_reducible refine vp_in_nI ?_ ?_ <;> first | omega | decide) | (with_reducible refine Nat.le_of_ble_eq_true ?_; rfl) | omega | exact Or.inl trivial | exact Or.inr trivial | exact Or.inl rfl | exact Or.inr rfl)
            refine hC.1 54 _ _ _ _ _ _ _ 8 _ _ _ _ _ _ _ _ _ _ _ _ lX8_54 (hn42) ⟨by decide, rfl⟩ (cx_8o) rfl rfl (Nat.le_of_ble_eq_true rfl) (by first | decide | omega) (by decide) (by omega) (by omega) dX8_readProduct_21 ?_
            refine hB bX8_readProduct_24 _ _ _ _ _ _ _ kX8_readProduct_24 ?_
            dsimp only [bX8_readProduct_24, kx_wp, kx_step, kx_lI, kx_lL, kx_lA, kx_gl, kx_pI, kx_pL, kx_pR, kx_pA, kx_pV, kx_s1, kx_s2, kx_sl, kx_pre, kx_c2, kx_pl, kx_cmp, kx_oF, kx_eqN, kx_nil, kx_c1, kx_ft, kx_aI, kx_aL, kx_aR, kx_ln, Nat.reduceAdd, Option.toList, List.cons_append, List.nil_append, cf8_0, cf8_2, cf8_9, cf9_16]
            repeat (simp only [cx_8w0 hw, cx_8o, cx_83 hw, cx_84 hw, hQ, hs, pk_us, pk_un, ne_eq, Nat.reduceEqDiff, not_false_eq_true, hE.2.1, cx_8n (show ¬ (67:Nat) = 68 by decide), cx_f67 hw, hT, nI_clamp (show ck_sk T n S1.1 < 2 ^ 31 by omega), nI_1, ks_eq, ks_ss]; try dsimp only [kx_wp, kx_step, kx_lI, kx_lL, kx_lA, kx_gl, kx_pI, kx_pL, kx_pR, kx_pA, kx_pV, kx_s1, kx_s2, kx_sl, kx_pre, kx_c2, kx_pl, kx_cmp, kx_oF, kx_eqN, kx_nil, kx_c1, kx_ft, kx_aI, kx_aL, kx_aR, kx_ln, Nat.reduceAdd, Option.toList, List.cons_append, List.nil_append, cf8_0, cf8_2, cf8_9, cf9_16])
            repeat' apply And.intro
            all_goals try (first | with_reducible assumption | (with_reducible refine ck_nzI ?_; simp; done) | (with_reducible refine ck_nzL ?_; simp; done) | (with_reducible refine vp_in_nI ?_ ?_ <;> first | omega | decide) | (with_reducible refine Nat.le_of_ble_eq_true ?_; rfl) | omega | exact Or.inl trivial | exact Or.inr trivial | exact Or.inl rfl | exact Or.inr rfl)
            · intro zc24
              first | exact absurd rfl zc24 | exact absurd zc24 (by decide) | exact absurd (by decide) zc24 | (exfalso; first | exact absurd ((nI_leI (a := 400) (b := i) (by omega) (by omega)).mp zc15) (by omega) | exact zc59 hTs | exact zc59 (by rw [hTs]; decide) | exact zc79 hTs | exact zc79 (by rw [hTs]; decide)) | (exfalso; simp_all; done)
            · intro zc24
              with_reducible first | have ze24 := Decidable.not_not.mp zc24 | have ze24 := zc24
              refine hB bX8_readProduct_27 _ _ _ _ _ _ _ kX8_readProduct_27 ?_
              dsimp only [bX8_readProduct_27, kx_wp, kx_step, kx_lI, kx_lL, kx_lA, kx_gl, kx_pI, kx_pL, kx_pR, kx_pA, kx_pV, kx_s1, kx_s2, kx_sl, kx_pre, kx_c2, kx_pl, kx_cmp, kx_oF, kx_eqN, kx_nil, kx_c1, kx_ft, kx_aI, kx_aL, kx_aR, kx_ln, Nat.reduceAdd, Option.toList, List.cons_append, List.nil_append, cf8_0, cf8_2, cf8_9, cf9_16]
              repeat (simp only [cx_8w0 hw, cx_8o, cx_83 hw, cx_84 hw, hQ, hs, pk_us, pk_un, ne_eq, Nat.reduceEqDiff, not_false_eq_true, hE.2.1, cx_8n (show ¬ (67:Nat) = 68 by decide), cx_f67 hw, hT, nI_clamp (show ck_sk T n S1.1 < 2 ^ 31 by omega), nI_1, ks_eq, ks_ss]; try dsimp only [kx_wp, kx_step, kx_lI, kx_lL, kx_lA, kx_gl, kx_pI, kx_pL, kx_pR, kx_pA, kx_pV, kx_s1, kx_s2, kx_sl, kx_pre, kx_c2, kx_pl, kx_cmp, kx_oF, kx_eqN, kx_nil, kx_c1, kx_ft, kx_aI, kx_aL, kx_aR, kx_ln, Nat.reduceAdd, Option.toList, List.cons_append, List.nil_append, cf8_0, cf8_2, cf8_9, cf9_16])
              repeat' apply And.intro
              all_goals try (first | with_reducible assumption | (with_reducible refine ck_nzI ?_; simp; done) | (with_reducible refine ck_nzL ?_; simp; done) | (with_reducible refine vp_in_nI ?_ ?_ <;> first | omega | decide) | (with_reducible refine Nat.le_of_ble_eq_true ?_; rfl) | omega | exact Or.inl trivial | exact Or.inr trivial | exact Or.inl rfl | exact Or.inr rfl)
              refine hC.1 54 _ _ _ _ _ _ _ 8 _ _ _ _ _ _ _ _ _ _ _ _ lX8_54 (hn47) ⟨by decide, rfl⟩ (cx_8o) rfl rfl (Nat.le_of_ble_eq_true rfl) (by first | decide | omega) (by decide) (by omega) (by omega) dX8_readProduct_30 ?_
              refine hB bX8_readProduct_33 _ _ _ _ _ _ _ kX8_readProduct_33 ?_
              dsimp only [bX8_readProduct_33, kx_wp, kx_step, kx_lI, kx_lL, kx_lA, kx_gl, kx_pI, kx_pL, kx_pR, kx_pA, kx_pV, kx_s1, kx_s2, kx_sl, kx_pre, kx_c2, kx_pl, kx_cmp, kx_oF, kx_eqN, kx_nil, kx_c1, kx_ft, kx_aI, kx_aL, kx_aR, kx_ln, Nat.reduceAdd, Option.toList, List.cons_append, List.nil_append, cf8_0, cf8_2, cf8_9, cf9_16]
              repeat (simp only [cx_8w0 hw, cx_8o, cx_83 hw, cx_84 hw, hQ, hs, pk_us, pk_un, ne_eq, Nat.reduceEqDiff, not_false_eq_true, hE.2.1, cx_8n (show ¬ (67:Nat) = 68 by decide), cx_f67 hw, hT, nI_clamp (show ck_sk T n S1.1 < 2 ^ 31 by omega), nI_1, ks_eq, ks_ss]; try dsimp only [kx_wp, kx_step, kx_lI, kx_lL, kx_lA, kx_gl, kx_pI, kx_pL, kx_pR, kx_pA, kx_pV, kx_s1, kx_s2, kx_sl, kx_pre, kx_c2, kx_pl, kx_cmp, kx_oF, kx_eqN, kx_nil, kx_c1, kx_ft, kx_aI, kx_aL, kx_aR, kx_ln, Nat.reduceAdd, Option.toList, List.cons_append, List.nil_append, cf8_0, cf8_2, cf8_9, cf9_16])
              repeat' apply And.intro
              all_goals try (first | with_reducible assumption | (with_reducible refine ck_nzI ?_; simp; done) | (with_reducible refine ck_nzL ?_; simp; done) | (with_reducible refine vp_in_nI ?_ ?_ <;> first | omega | decide) | (with_reducible refine Nat.le_of_ble_eq_true ?_; rfl) | omega | exact Or.inl trivial | exact Or.inr trivial | exact Or.inl rfl | exact Or.inr rfl)
              · intro zc33
                first | exact absurd rfl zc33 | exact absurd zc33 (by decide) | exact absurd (by decide) zc33 | (exfalso; first | exact absurd ((nI_leI (a := 400) (b := i) (by omega) (by omega)).mp zc15) (by omega) | exact zc59 hTs | exact zc59 (by rw [hTs]; decide) | exact zc79 hTs | exact zc79 (by rw [hTs]; decide)) | (exfalso; simp_all; done)
              · intro zc33
                with_reducible first | have ze33 := Decidable.not_not.mp zc33 | have ze33 := zc33
                refine hB bX8_readProduct_36 _ _ _ _ _ _ _ kX8_readProduct_36 ?_
                dsimp only [bX8_readProduct_36, kx_wp, kx_step, kx_lI, kx_lL, kx_lA, kx_gl, kx_pI, kx_pL, kx_pR, kx_pA, kx_pV, kx_s1, kx_s2, kx_sl, kx_pre, kx_c2, kx_pl, kx_cmp, kx_oF, kx_eqN, kx_nil, kx_c1, kx_ft, kx_aI, kx_aL, kx_aR, kx_ln, Nat.reduceAdd, Option.toList, List.cons_append, List.nil_append, cf8_0, cf8_2, cf8_9, cf9_16]
                repeat (simp only [cx_8w0 hw, cx_8o, cx_83 hw, cx_84 hw, hQ, hs, pk_us, pk_un, ne_eq, Nat.reduceEqDiff, not_false_eq_true, hE.2.1, cx_8n (show ¬ (67:Nat) = 68 by decide), cx_f67 hw, hT, nI_clamp (show ck_sk T n S1.1 < 2 ^ 31 by omega), nI_1, ks_eq, ks_ss]; try dsimp only [kx_wp, kx_step, kx_lI, kx_lL, kx_lA, kx_gl, kx_pI, kx_pL, kx_pR, kx_pA, kx_pV, kx_s1, kx_s2, kx_sl, kx_pre, kx_c2, kx_pl, kx_cmp, kx_oF, kx_eqN, kx_nil, kx_c1, kx_ft, kx_aI, kx_aL, kx_aR, kx_ln, Nat.reduceAdd, Option.toList, List.cons_append, List.nil_append, cf8_0, cf8_2, cf8_9, cf9_16])
                repeat' apply And.intro
                all_goals try (first | with_reducible assumption | (with_reducible refine ck_nzI ?_; simp; done) | (with_reducible refine ck_nzL ?_; simp; done) | (with_reducible refine vp_in_nI ?_ ?_ <;> first | omega | decide) | (with_reducible refine Nat.le_of_ble_eq_true ?_; rfl) | omega | exact Or.inl trivial | exact Or.inr trivial | exact Or.inl rfl | exact Or.inr rfl)
                refine hC.1 54 _ _ _ _ _ _ _ 8 _ _ _ _ _ _ _ _ _ _ _ _ lX8_54 (hn37) ⟨by decide, rfl⟩ (cx_8o) rfl rfl (Nat.le_of_ble_eq_true rfl) (by first | decide | omega) (by decide) (by omega) (by omega) dX8_readProduct_39 ?_
                refine hB bX8_readProduct_42 _ _ _ _ _ _ _ kX8_readProduct_42 ?_
                dsimp only [bX8_readProduct_42, kx_wp, kx_step, kx_lI, kx_lL, kx_lA, kx_gl, kx_pI, kx_pL, kx_pR, kx_pA, kx_pV, kx_s1, kx_s2, kx_sl, kx_pre, kx_c2, kx_pl, kx_cmp, kx_oF, kx_eqN, kx_nil, kx_c1, kx_ft, kx_aI, kx_aL, kx_aR, kx_ln, Nat.reduceAdd, Option.toList, List.cons_append, List.nil_append, cf8_0, cf8_2, cf8_9, cf9_16]
                repeat (simp only [cx_8w0 hw, cx_8o, cx_83 hw, cx_84 hw, hQ, hs, pk_us, pk_un, ne_eq, Nat.reduceEqDiff, not_false_eq_true, hE.2.1, cx_8n (show ¬ (67:Nat) = 68 by decide), cx_f67 hw, hT, nI_clamp (show ck_sk T n S1.1 < 2 ^ 31 by omega), nI_1, ks_eq, ks_ss]; try dsimp only [kx_wp, kx_step, kx_lI, kx_lL, kx_lA, kx_gl, kx_pI, kx_pL, kx_pR, kx_pA, kx_pV, kx_s1, kx_s2, kx_sl, kx_pre, kx_c2, kx_pl, kx_cmp, kx_oF, kx_eqN, kx_nil, kx_c1, kx_ft, kx_aI, kx_aL, kx_aR, kx_ln, Nat.reduceAdd, Option.toList, List.cons_append, List.nil_append, cf8_0, cf8_2, cf8_9, cf9_16])
                repeat' apply And.intro
                all_goals try (first | with_reducible assumption | (with_reducible refine ck_nzI ?_; simp; done) | (with_reducible refine ck_nzL ?_; simp; done) | (with_reducible refine vp_in_nI ?_ ?_ <;> first | omega | decide) | (with_reducible refine Nat.le_of_ble_eq_true ?_; rfl) | omega | exact Or.inl trivial | exact Or.inr trivial | exact Or.inl rfl | exact Or.inr rfl)
                · intro zc42
                  have ze42 := zc42
                  refine hB bX8_readProduct_123 _ _ _ _ _ _ _ kX8_readProduct_123 ?_
                  dsimp only [bX8_readProduct_123, kx_wp, kx_step, kx_lI, kx_lL, kx_lA, kx_gl, kx_pI, kx_pL, kx_pR, kx_pA, kx_pV, kx_s1, kx_s2, kx_sl, kx_pre, kx_c2, kx_pl, kx_cmp, kx_oF, kx_eqN, kx_nil, kx_c1, kx_ft, kx_aI, kx_aL, kx_aR, kx_ln, Nat.reduceAdd, Option.toList, List.cons_append, List.nil_append, cf8_0, cf8_2, cf8_9, cf9_16]
                  repeat (simp only [cx_8w0 hw, cx_8o, cx_83 hw, cx_84 hw, hQ, hs, pk_us, pk_un, ne_eq, Nat.reduceEqDiff, not_false_eq_true, hE.2.1, cx_8n (show ¬ (67:Nat) = 68 by decide), cx_f67 hw, hT, nI_clamp (show ck_sk T n S1.1 < 2 ^ 31 by omega), nI_1, ks_eq, ks_ss]; try dsimp only [kx_wp, kx_step, kx_lI, kx_lL, kx_lA, kx_gl, kx_pI, kx_pL, kx_pR, kx_pA, kx_pV, kx_s1, kx_s2, kx_sl, kx_pre, kx_c2, kx_pl, kx_cmp, kx_oF, kx_eqN, kx_nil, kx_c1, kx_ft, kx_aI, kx_aL, kx_aR, kx_ln, Nat.reduceAdd, Option.toList, List.cons_append, List.nil_append, cf8_0, cf8_2, cf8_9, cf9_16])
                  all_goals (repeat' apply And.intro)
                  all_goals (rw [hR]; first | exact cx_PE.f hg (hX hg) | exact cx_PE.t hg hER)
                · intro zc42
                  first | exact absurd rfl zc42 | exact absurd zc42 (by decide) | exact absurd (by decide) zc42 | (exfalso; first | exact absurd ((nI_leI (a := 400) (b := i) (by omega) (by omega)).mp zc15) (by omega) | exact zc59 hTs | exact zc59 (by rw [hTs]; decide) | exact zc79 hTs | exact zc79 (by rw [hTs]; decide)) | (exfalso; simp_all; done)
    | succ n9 ih =>
      intro S1 F1 Fo1 st1 i z3 hE hX hsl1 hlv1 hnn hi9 he9
      have hcase : (¬ S1.2.1 = -1) ∨ (S1.2.1 = -1 ∧ ¬ (ck_hcx T n S1.1 = 42 ∨ ck_hcx T n S1.1 = 47 ∨ ck_hcx T n S1.1 = 37)) ∨ (S1.2.1 = -1 ∧ ck_hcx T n S1.1 = 42 ∧ (U (ck_sk T n S1.1 + 1, S1.2)).2.1 = -1) ∨ (S1.2.1 = -1 ∧ ck_hcx T n S1.1 = 42 ∧ ¬ (U (ck_sk T n S1.1 + 1, S1.2)).2.1 = -1) ∨ (S1.2.1 = -1 ∧ ck_hcx T n S1.1 = 47 ∧ (U (ck_sk T n S1.1 + 1, S1.2)).2.1 = -1) ∨ (S1.2.1 = -1 ∧ ck_hcx T n S1.1 = 47 ∧ ¬ (U (ck_sk T n S1.1 + 1, S1.2)).2.1 = -1) ∨ (S1.2.1 = -1 ∧ ck_hcx T n S1.1 = 37 ∧ (U (ck_sk T n S1.1 + 1, S1.2)).2.1 = -1) ∨ (S1.2.1 = -1 ∧ ck_hcx T n S1.1 = 37 ∧ ¬ (U (ck_sk T n S1.1 + 1, S1.2)).2.1 = -1) := by
        by_cases hg : S1.2.1 = -1
        · by_cases ho0 : ck_hcx T n S1.1 = 42
          · by_cases hg9 : (U (ck_sk T n S1.1 + 1, S1.2)).2.1 = -1
            · exact Or.inr (Or.inr (Or.inl (⟨hg, ho0, hg9⟩)))
            · exact Or.inr (Or.inr (Or.inr (Or.inl (⟨hg, ho0, hg9⟩))))
          · by_cases ho1 : ck_hcx T n S1.1 = 47
            · by_cases hg9 : (U (ck_sk T n S1.1 + 1, S1.2)).2.1 = -1
              · exact Or.inr (Or.inr (Or.inr (Or.inr (Or.inl (⟨hg, ho1, hg9⟩)))))
              · exact Or.inr (Or.inr (Or.inr (Or.inr (Or.inr (Or.inl (⟨hg, ho1, hg9⟩))))))
            · by_cases ho2 : ck_hcx T n S1.1 = 37
              · by_cases hg9 : (U (ck_sk T n S1.1 + 1, S1.2)).2.1 = -1
                · exact Or.inr (Or.inr (Or.inr (Or.inr (Or.inr (Or.inr (Or.inl (⟨hg, ho2, hg9⟩)))))))
                · exact Or.inr (Or.inr (Or.inr (Or.inr (Or.inr (Or.inr (Or.inr ((⟨hg, ho2, hg9⟩))))))))
              · exact Or.inr (Or.inl (⟨hg, fun q => by rcases q with q | q | q <;> contradiction⟩))
        · exact Or.inl hg
      rcases hcase with hg | ⟨hg, hno⟩ | ⟨hg, hop, hg9⟩ | ⟨hg, hop, hg9⟩ | ⟨hg, hop, hg9⟩ | ⟨hg, hop, hg9⟩ | ⟨hg, hop, hg9⟩ | ⟨hg, hop, hg9⟩
      · rw [cx_b0 hg]
        have hR : ck_te T n U S = S1 := he9.symm.trans (ck_lpt_st _ S1 hg)
        refine hB bX8_readProduct_7 _ _ _ _ _ _ _ kX8_readProduct_7 ?_
        dsimp only [bX8_readProduct_7, kx_wp, kx_step, kx_lI, kx_lL, kx_lA, kx_gl, kx_pI, kx_pL, kx_pR, kx_pA, kx_pV, kx_s1, kx_s2, kx_sl, kx_pre, kx_c2, kx_pl, kx_cmp, kx_oF, kx_eqN, kx_nil, kx_c1, kx_ft, kx_aI, kx_aL, kx_aR, kx_ln, Nat.reduceAdd, Option.toList, List.cons_append, List.nil_append, cf8_0, cf8_2, cf8_9, cf9_16]
        repeat (simp only [cx_8w0 hw, cx_8o, cx_83 hw, cx_84 hw, hQ, hs, pk_us, pk_un, ne_eq, Nat.reduceEqDiff, not_false_eq_true, hE.2.1, cx_8n (show ¬ (67:Nat) = 68 by decide), cx_f67 hw, hT, nI_clamp (show ck_sk T n S1.1 < 2 ^ 31 by omega), nI_1, ks_eq, ks_ss]; try dsimp only [kx_wp, kx_step, kx_lI, kx_lL, kx_lA, kx_gl, kx_pI, kx_pL, kx_pR, kx_pA, kx_pV, kx_s1, kx_s2, kx_sl, kx_pre, kx_c2, kx_pl, kx_cmp, kx_oF, kx_eqN, kx_nil, kx_c1, kx_ft, kx_aI, kx_aL, kx_aR, kx_ln, Nat.reduceAdd, Option.toList, List.cons_append, List.nil_append, cf8_0, cf8_2, cf8_9, cf9_16])
        repeat' apply And.intro
        all_goals try (first | with_reducible assumption | (with_reducible refine ck_nzI ?_; simp; done) | (with_reducible refine ck_nzL ?_; simp; done) | (with_reducible refine vp_in_nI ?_ ?_ <;> first | omega | decide) | (with_reducible refine Nat.le_of_ble_eq_true ?_; rfl) | omega | exact Or.inl trivial | exact Or.inr trivial | exact Or.inl rfl | exact Or.inr rfl)
        · intro zc8
          have ze8 := zc8
          refine hB bX8_readProduct_123 _ _ _ _ _ _ _ kX8_readProduct_123 ?_
          dsimp only [bX8_readProduct_123, kx_wp, kx_step, kx_lI, kx_lL, kx_lA, kx_gl, kx_pI, kx_pL, kx_pR, kx_pA, kx_pV, kx_s1, kx_s2, kx_sl, kx_pre, kx_c2, kx_pl, kx_cmp, kx_oF, kx_eqN, kx_nil, kx_c1, kx_ft, kx_aI, kx_aL, kx_aR, kx_ln, Nat.reduceAdd, Option.toList, List.cons_append, List.nil_append, cf8_0, cf8_2, cf8_9, cf9_16]
          repeat (simp only [cx_8w0 hw, cx_8o, cx_83 hw, cx_84 hw, hQ, hs, pk_us, pk_un, ne_eq, Nat.reduceEqDiff, not_false_eq_true, hE.2.1, cx_8n (show ¬ (67:Nat) = 68 by decide), cx_f67 hw, hT, nI_clamp (show ck_sk T n S1.1 < 2 ^ 31 by omega), nI_1, ks_eq, ks_ss]; try dsimp only [kx_wp, kx_step, kx_lI, kx_lL, kx_lA, kx_gl, kx_pI, kx_pL, kx_pR, kx_pA, kx_pV, kx_s1, kx_s2, kx_sl, kx_pre, kx_c2, kx_pl, kx_cmp, kx_oF, kx_eqN, kx_nil, kx_c1, kx_ft, kx_aI, kx_aL, kx_aR, kx_ln, Nat.reduceAdd, Option.toList, List.cons_append, List.nil_append, cf8_0, cf8_2, cf8_9, cf9_16])
          all_goals (repeat' apply And.intro)
          all_goals (rw [hR]; first | exact cx_PE.f hg (hX hg) | exact cx_PE.t hg hER)
        · intro zc8
          first | exact absurd rfl zc8 | exact absurd zc8 (by decide) | exact absurd (by decide) zc8 | (exfalso; first | exact absurd ((nI_leI (a := 400) (b := i) (by omega) (by omega)).mp zc15) (by omega) | exact zc59 hTs | exact zc59 (by rw [hTs]; decide) | exact zc79 hTs | exact zc79 (by rw [hTs]; decide)) | (exfalso; simp_all; done)
      · rw [cx_b1 hg]
        have hle := ck_sk_le T hsl1.1
        have hE := hE hg
        have hTf : cx_fW Q w Fo1 st1 67 = kI 0 400 T := (cx_f67 hw).trans hT
        have hR : ck_te T n U S = (ck_sk T n S1.1, S1.2) := by
          rw [← he9]
          show (if S1.2.1 = -1 ∧ (ck_hcx T n S1.1 = 42 ∨ ck_hcx T n S1.1 = 47 ∨ ck_hcx T n S1.1 = 37) then ck_lpt T n U n9 (ck_one T n U (if ck_hcx T n S1.1 = 42 then 6 else if ck_hcx T n S1.1 = 47 then 7 else 8) S1) else ck_ex T n S1) = _
          rw [if_neg (fun q => hno q.2)]
          unfold ck_ex
          rw [if_pos hg]
        have hER : cx_E T n (ck_sk T n S1.1, S1.2) F1 Fo1 st1 := ⟨hE.1, by rw [ck_skk]; exact hE.2.1, hE.2.2.1, hE.2.2.2.1, hE.2.2.2.2.1, hE.2.2.2.2.2.1, hE.2.2.2.2.2.2⟩
        have hn42 := ct_X8_nextIs_f (l := l) (G := G) (sz := sz) (x := .ref w) hTf hE.1 hn hE.2.1 hle.2 (ch := 42) (by decide) (fun q => hno ((fun z => Or.inl <| z) q))
        have hn47 := ct_X8_nextIs_f (l := l) (G := G) (sz := sz) (x := .ref w) hTf hE.1 hn hE.2.1 hle.2 (ch := 47) (by decide) (fun q => hno ((fun z => Or.inr <| Or.inl <| z) q))
        have hn37 := ct_X8_nextIs_f (l := l) (G := G) (sz := sz) (x := .ref w) hTf hE.1 hn hE.2.1 hle.2 (ch := 37) (by decide) (fun q => hno ((fun z => Or.inr <| Or.inr <| z) q))
        refine hB bX8_readProduct_7 _ _ _ _ _ _ _ kX8_readProduct_7 ?_
        dsimp only [bX8_readProduct_7, kx_wp, kx_step, kx_lI, kx_lL, kx_lA, kx_gl, kx_pI, kx_pL, kx_pR, kx_pA, kx_pV, kx_s1, kx_s2, kx_sl, kx_pre, kx_c2, kx_pl, kx_cmp, kx_oF, kx_eqN, kx_nil, kx_c1, kx_ft, kx_aI, kx_aL, kx_aR, kx_ln, Nat.reduceAdd, Option.toList, List.cons_append, List.nil_append, cf8_0, cf8_2, cf8_9, cf9_16]
        repeat (simp only [cx_8w0 hw, cx_8o, cx_83 hw, cx_84 hw, hQ, hs, pk_us, pk_un, ne_eq, Nat.reduceEqDiff, not_false_eq_true, hE.2.1, cx_8n (show ¬ (67:Nat) = 68 by decide), cx_f67 hw, hT, nI_clamp (show ck_sk T n S1.1 < 2 ^ 31 by omega), nI_1, ks_eq, ks_ss]; try dsimp only [kx_wp, kx_step, kx_lI, kx_lL, kx_lA, kx_gl, kx_pI, kx_pL, kx_pR, kx_pA, kx_pV, kx_s1, kx_s2, kx_sl, kx_pre, kx_c2, kx_pl, kx_cmp, kx_oF, kx_eqN, kx_nil, kx_c1, kx_ft, kx_aI, kx_aL, kx_aR, kx_ln, Nat.reduceAdd, Option.toList, List.cons_append, List.nil_append, cf8_0, cf8_2, cf8_9, cf9_16])
        repeat' apply And.intro
        all_goals try (first | with_reducible assumption | (with_reducible refine ck_nzI ?_; simp; done) | (with_reducible refine ck_nzL ?_; simp; done) | (with_reducible refine vp_in_nI ?_ ?_ <;> first | omega | decide) | (with_reducible refine Nat.le_of_ble_eq_true ?_; rfl) | omega | exact Or.inl trivial | exact Or.inr trivial | exact Or.inl rfl | exact Or.inr rfl)
        · intro zc8
          first | exact absurd rfl zc8 | exact absurd zc8 (by decide) | exact absurd (by decide) zc8 | (exfalso; first | exact absurd ((nI_leI (a := 400) (b := i) (by omega) (by omega)).mp zc15) (by omega) | exact zc59 hTs | exact zc59 (by rw [hTs]; decide) | exact zc79 hTs | exact zc79 (by rw [hTs]; decide)) | (exfalso; simp_all; done)
        · intro zc8
          have ze8 := zc8
          refine hB bX8_readProduct_11 _ _ _ _ _ _ _ kX8_readProduct_11 ?_
          dsimp only [bX8_readProduct_11, kx_wp, kx_step, kx_lI, kx_lL, kx_lA, kx_gl, kx_pI, kx_pL, kx_pR, kx_pA, kx_pV, kx_s1, kx_s2, kx_sl, kx_pre, kx_c2, kx_pl, kx_cmp, kx_oF, kx_eqN, kx_nil, kx_c1, kx_ft, kx_aI, kx_aL, kx_aR, kx_ln, Nat.reduceAdd, Option.toList, List.cons_append, List.nil_append, cf8_0, cf8_2, cf8_9, cf9_16]
          repeat (simp only [cx_8w0 hw, cx_8o, cx_83 hw, cx_84 hw, hQ, hs, pk_us, pk_un, ne_eq, Nat.reduceEqDiff, not_false_eq_true, hE.2.1, cx_8n (show ¬ (67:Nat) = 68 by decide), cx_f67 hw, hT, nI_clamp (show ck_sk T n S1.1 < 2 ^ 31 by omega), nI_1, ks_eq, ks_ss]; try dsimp only [kx_wp, kx_step, kx_lI, kx_lL, kx_lA, kx_gl, kx_pI, kx_pL, kx_pR, kx_pA, kx_pV, kx_s1, kx_s2, kx_sl, kx_pre, kx_c2, kx_pl, kx_cmp, kx_oF, kx_eqN, kx_nil, kx_c1, kx_ft, kx_aI, kx_aL, kx_aR, kx_ln, Nat.reduceAdd, Option.toList, List.cons_append, List.nil_append, cf8_0, cf8_2, cf8_9, cf9_16])
          repeat' apply And.intro
          all_goals try (first | with_reducible assumption | (with_reducible refine ck_nzI ?_; simp; done) | (with_reducible refine ck_nzL ?_; simp; done) | (with_reducible refine vp_in_nI ?_ ?_ <;> first | omega | decide) | (with_reducible refine Nat.le_of_ble_eq_true ?_; rfl) | omega | exact Or.inl trivial | exact Or.inr trivial | exact Or.inl rfl | exact Or.inr rfl)
          · intro zc15
            with_reducible first | have ze15 := Int32.not_lt.mpr zc15 | have ze15 := zc15
            refine hB bX8_readProduct_123 _ _ _ _ _ _ _ kX8_readProduct_123 ?_
            dsimp only [bX8_readProduct_123, kx_wp, kx_step, kx_lI, kx_lL, kx_lA, kx_gl, kx_pI, kx_pL, kx_pR, kx_pA, kx_pV, kx_s1, kx_s2, kx_sl, kx_pre, kx_c2, kx_pl, kx_cmp, kx_oF, kx_eqN, kx_nil, kx_c1, kx_ft, kx_aI, kx_aL, kx_aR, kx_ln, Nat.reduceAdd, Option.toList, List.cons_append, List.nil_append, cf8_0, cf8_2, cf8_9, cf9_16]
            repeat (simp only [cx_8w0 hw, cx_8o, cx_83 hw, cx_84 hw, hQ, hs, pk_us, pk_un, ne_eq, Nat.reduceEqDiff, not_false_eq_true, hE.2.1, cx_8n (show ¬ (67:Nat) = 68 by decide), cx_f67 hw, hT, nI_clamp (show ck_sk T n S1.1 < 2 ^ 31 by omega), nI_1, ks_eq, ks_ss]; try dsimp only [kx_wp, kx_step, kx_lI, kx_lL, kx_lA, kx_gl, kx_pI, kx_pL, kx_pR, kx_pA, kx_pV, kx_s1, kx_s2, kx_sl, kx_pre, kx_c2, kx_pl, kx_cmp, kx_oF, kx_eqN, kx_nil, kx_c1, kx_ft, kx_aI, kx_aL, kx_aR, kx_ln, Nat.reduceAdd, Option.toList, List.cons_append, List.nil_append, cf8_0, cf8_2, cf8_9, cf9_16])
            all_goals (repeat' apply And.intro)
            all_goals (rw [hR]; first | exact cx_PE.f hg (hX hg) | exact cx_PE.t hg hER)
          · intro zc15
            with_reducible first | have ze15 := Int32.not_le.mp zc15 | have ze15 := zc15
            refine hB bX8_readProduct_18 _ _ _ _ _ _ _ kX8_readProduct_18 ?_
            dsimp only [bX8_readProduct_18, kx_wp, kx_step, kx_lI, kx_lL, kx_lA, kx_gl, kx_pI, kx_pL, kx_pR, kx_pA, kx_pV, kx_s1, kx_s2, kx_sl, kx_pre, kx_c2, kx_pl, kx_cmp, kx_oF, kx_eqN, kx_nil, kx_c1, kx_ft, kx_aI, kx_aL, kx_aR, kx_ln, Nat.reduceAdd, Option.toList, List.cons_append, List.nil_append, cf8_0, cf8_2, cf8_9, cf9_16]
            repeat (simp only [cx_8w0 hw, cx_8o, cx_83 hw, cx_84 hw, hQ, hs, pk_us, pk_un, ne_eq, Nat.reduceEqDiff, not_false_eq_true, hE.2.1, cx_8n (show ¬ (67:Nat) = 68 by decide), cx_f67 hw, hT, nI_clamp (show ck_sk T n S1.1 < 2 ^ 31 by omega), nI_1, ks_eq, ks_ss]; try dsimp only [kx_wp, kx_step, kx_lI, kx_lL, kx_lA, kx_gl, kx_pI, kx_pL, kx_pR, kx_pA, kx_pV, kx_s1, kx_s2, kx_sl, kx_pre, kx_c2, kx_pl, kx_cmp, kx_oF, kx_eqN, kx_nil, kx_c1, kx_ft, kx_aI, kx_aL, kx_aR, kx_ln, Nat.reduceAdd, Option.toList, List.cons_append, List.nil_append, cf8_0, cf8_2, cf8_9, cf9_16])
            repeat' apply And.intro
            all_goals try (first | with_reducible assumption | (with_reducible refine ck_nzI ?_; simp; done) | (with_reducible refine ck_nzL ?_; simp; done) | (with_reducible refine vp_in_nI ?_ ?_ <;> first | omega | decide) | (with_reducible refine Nat.le_of_ble_eq_true ?_; rfl) | omega | exact Or.inl trivial | exact Or.inr trivial | exact Or.inl rfl | exact Or.inr rfl)
            refine hC.1 54 _ _ _ _ _ _ _ 8 _ _ _ _ _ _ _ _ _ _ _ _ lX8_54 (hn42) ⟨by decide, rfl⟩ (cx_8o) rfl rfl (Nat.le_of_ble_eq_true rfl) (by first | decide | omega) (by decide) (by omega) (by omega) dX8_readProduct_21 ?_
            refine hB bX8_readProduct_24 _ _ _ _ _ _ _ kX8_readProduct_24 ?_
            dsimp only [bX8_readProduct_24, kx_wp, kx_step, kx_lI, kx_lL, kx_lA, kx_gl, kx_pI, kx_pL, kx_pR, kx_pA, kx_pV, kx_s1, kx_s2, kx_sl, kx_pre, kx_c2, kx_pl, kx_cmp, kx_oF, kx_eqN, kx_nil, kx_c1, kx_ft, kx_aI, kx_aL, kx_aR, kx_ln, Nat.reduceAdd, Option.toList, List.cons_append, List.nil_append, cf8_0, cf8_2, cf8_9, cf9_16]
            repeat (simp only [cx_8w0 hw, cx_8o, cx_83 hw, cx_84 hw, hQ, hs, pk_us, pk_un, ne_eq, Nat.reduceEqDiff, not_false_eq_true, hE.2.1, cx_8n (show ¬ (67:Nat) = 68 by decide), cx_f67 hw, hT, nI_clamp (show ck_sk T n S1.1 < 2 ^ 31 by omega), nI_1, ks_eq, ks_ss]; try dsimp only [kx_wp, kx_step, kx_lI, kx_lL, kx_lA, kx_gl, kx_pI, kx_pL, kx_pR, kx_pA, kx_pV, kx_s1, kx_s2, kx_sl, kx_pre, kx_c2, kx_pl, kx_cmp, kx_oF, kx_eqN, kx_nil, kx_c1, kx_ft, kx_aI, kx_aL, kx_aR, kx_ln, Nat.reduceAdd, Option.toList, List.cons_append, List.nil_append, cf8_0, cf8_2, cf8_9, cf9_16])
            repeat' apply And.intro
            all_goals try (first | with_reducible assumption | (with_reducible refine ck_nzI ?_; simp; done) | (with_reducible refine ck_nzL ?_; simp; done) | (with_reducible refine vp_in_nI ?_ ?_ <;> first | omega | decide) | (with_reducible refine Nat.le_of_ble_eq_true ?_; rfl) | omega | exact Or.inl trivial | exact Or.inr trivial | exact Or.inl rfl | exact Or.inr rfl)
            · intro zc24
              first | exact absurd rfl zc24 | exact absurd zc24 (by decide) | exact absurd (by decide) zc24 | (exfalso; first | exact absurd ((nI_leI (a := 400) (b := i) (by omega) (by omega)).mp zc15) (by omega) | exact zc59 hTs | exact zc59 (by rw [hTs]; decide) | exact zc79 hTs | exact zc79 (by rw [hTs]; decide)) | (exfalso; simp_all; done)
            · intro zc24
              with_reducible first | have ze24 := Decidable.not_not.mp zc24 | have ze24 := zc24
              refine hB bX8_readProduct_27 _ _ _ _ _ _ _ kX8_readProduct_27 ?_
              dsimp only [bX8_readProduct_27, kx_wp, kx_step, kx_lI, kx_lL, kx_lA, kx_gl, kx_pI, kx_pL, kx_pR, kx_pA, kx_pV, kx_s1, kx_s2, kx_sl, kx_pre, kx_c2, kx_pl, kx_cmp, kx_oF, kx_eqN, kx_nil, kx_c1, kx_ft, kx_aI, kx_aL, kx_aR, kx_ln, Nat.reduceAdd, Option.toList, List.cons_append, List.nil_append, cf8_0, cf8_2, cf8_9, cf9_16]
              repeat (simp only [cx_8w0 hw, cx_8o, cx_83 hw, cx_84 hw, hQ, hs, pk_us, pk_un, ne_eq, Nat.reduceEqDiff, not_false_eq_true, hE.2.1, cx_8n (show ¬ (67:Nat) = 68 by decide), cx_f67 hw, hT, nI_clamp (show ck_sk T n S1.1 < 2 ^ 31 by omega), nI_1, ks_eq, ks_ss]; try dsimp only [kx_wp, kx_step, kx_lI, kx_lL, kx_lA, kx_gl, kx_pI, kx_pL, kx_pR, kx_pA, kx_pV, kx_s1, kx_s2, kx_sl, kx_pre, kx_c2, kx_pl, kx_cmp, kx_oF, kx_eqN, kx_nil, kx_c1, kx_ft, kx_aI, kx_aL, kx_aR, kx_ln, Nat.reduceAdd, Option.toList, List.cons_append, List.nil_append, cf8_0, cf8_2, cf8_9, cf9_16])
              repeat' apply And.intro
              all_goals try (first | with_reducible assumption | (with_reducible refine ck_nzI ?_; simp; done) | (with_reducible refine ck_nzL ?_; simp; done) | (with_reducible refine vp_in_nI ?_ ?_ <;> first | omega | decide) | (with_reducible refine Nat.le_of_ble_eq_true ?_; rfl) | omega | exact Or.inl trivial | exact Or.inr trivial | exact Or.inl rfl | exact Or.inr rfl)
              refine hC.1 54 _ _ _ _ _ _ _ 8 _ _ _ _ _ _ _ _ _ _ _ _ lX8_54 (hn47) ⟨by decide, rfl⟩ (cx_8o) rfl rfl (Nat.le_of_ble_eq_true rfl) (by first | decide | omega) (by decide) (by omega) (by omega) dX8_readProduct_30 ?_
              refine hB bX8_readProduct_33 _ _ _ _ _ _ _ kX8_readProduct_33 ?_
              dsimp only [bX8_readProduct_33, kx_wp, kx_step, kx_lI, kx_lL, kx_lA, kx_gl, kx_pI, kx_pL, kx_pR, kx_pA, kx_pV, kx_s1, kx_s2, kx_sl, kx_pre, kx_c2, kx_pl, kx_cmp, kx_oF, kx_eqN, kx_nil, kx_c1, kx_ft, kx_aI, kx_aL, kx_aR, kx_ln, Nat.reduceAdd, Option.toList, List.cons_append, List.nil_append, cf8_0, cf8_2, cf8_9, cf9_16]
              repeat (simp only [cx_8w0 hw, cx_8o, cx_83 hw, cx_84 hw, hQ, hs, pk_us, pk_un, ne_eq, Nat.reduceEqDiff, not_false_eq_true, hE.2.1, cx_8n (show ¬ (67:Nat) = 68 by decide), cx_f67 hw, hT, nI_clamp (show ck_sk T n S1.1 < 2 ^ 31 by omega), nI_1, ks_eq, ks_ss]; try dsimp only [kx_wp, kx_step, kx_lI, kx_lL, kx_lA, kx_gl, kx_pI, kx_pL, kx_pR, kx_pA, kx_pV, kx_s1, kx_s2, kx_sl, kx_pre, kx_c2, kx_pl, kx_cmp, kx_oF, kx_eqN, kx_nil, kx_c1, kx_ft, kx_aI, kx_aL, kx_aR, kx_ln, Nat.reduceAdd, Option.toList, List.cons_append, List.nil_append, cf8_0, cf8_2, cf8_9, cf9_16])
              repeat' apply And.intro
              all_goals try (first | with_reducible assumption | (with_reducible refine ck_nzI ?_; simp; done) | (with_reducible refine ck_nzL ?_; simp; done) | (with_reducible refine vp_in_nI ?_ ?_ <;> first | omega | decide) | (with_reducible refine Nat.le_of_ble_eq_true ?_; rfl) | omega | exact Or.inl trivial | exact Or.inr trivial | exact Or.inl rfl | exact Or.inr rfl)
              · intro zc33
                first | exact absurd rfl zc33 | exact absurd zc33 (by decide) | exact absurd (by decide) zc33 | (exfalso; first | exact absurd ((nI_leI (a := 400) (b := i) (by omega) (by omega)).mp zc15) (by omega) | exact zc59 hTs | exact zc59 (by rw [hTs]; decide) | exact zc79 hTs | exact zc79 (by rw [hTs]; decide)) | (exfalso; simp_all; done)
              · intro zc33
                with_reducible first | have ze33 := Decidable.not_not.mp zc33 | have ze33 := zc33
                refine hB bX8_readProduct_36 _ _ _ _ _ _ _ kX8_readProduct_36 ?_
                dsimp only [bX8_readProduct_36, kx_wp, kx_step, kx_lI, kx_lL, kx_lA, kx_gl, kx_pI, kx_pL, kx_pR, kx_pA, kx_pV, kx_s1, kx_s2, kx_sl, kx_pre, kx_c2, kx_pl, kx_cmp, kx_oF, kx_eqN, kx_nil, kx_c1, kx_ft, kx_aI, kx_aL, kx_aR, kx_ln, Nat.reduceAdd, Option.toList, List.cons_append, List.nil_append, cf8_0, cf8_2, cf8_9, cf9_16]
                repeat (simp only [cx_8w0 hw, cx_8o, cx_83 hw, cx_84 hw, hQ, hs, pk_us, pk_un, ne_eq, Nat.reduceEqDiff, not_false_eq_true, hE.2.1, cx_8n (show ¬ (67:Nat) = 68 by decide), cx_f67 hw, hT, nI_clamp (show ck_sk T n S1.1 < 2 ^ 31 by omega), nI_1, ks_eq, ks_ss]; try dsimp only [kx_wp, kx_step, kx_lI, kx_lL, kx_lA, kx_gl, kx_pI, kx_pL, kx_pR, kx_pA, kx_pV, kx_s1, kx_s2, kx_sl, kx_pre, kx_c2, kx_pl, kx_cmp, kx_oF, kx_eqN, kx_nil, kx_c1, kx_ft, kx_aI, kx_aL, kx_aR, kx_ln, Nat.reduceAdd, Option.toList, List.cons_append, List.nil_append, cf8_0, cf8_2, cf8_9, cf9_16])
                repeat' apply And.intro
                all_goals try (first | with_reducible assumption | (with_reducible refine ck_nzI ?_; simp; done) | (with_reducible refine ck_nzL ?_; simp; done) | (with_reducible refine vp_in_nI ?_ ?_ <;> first | omega | decide) | (with_reducible refine Nat.le_of_ble_eq_true ?_; rfl) | omega | exact Or.inl trivial | exact Or.inr trivial | exact Or.inl rfl | exact Or.inr rfl)
                refine hC.1 54 _ _ _ _ _ _ _ 8 _ _ _ _ _ _ _ _ _ _ _ _ lX8_54 (hn37) ⟨by decide, rfl⟩ (cx_8o) rfl rfl (Nat.le_of_ble_eq_true rfl) (by first | decide | omega) (by decide) (by omega) (by omega) dX8_readProduct_39 ?_
                refine hB bX8_readProduct_42 _ _ _ _ _ _ _ kX8_readProduct_42 ?_
                dsimp only [bX8_readProduct_42, kx_wp, kx_step, kx_lI, kx_lL, kx_lA, kx_gl, kx_pI, kx_pL, kx_pR, kx_pA, kx_pV, kx_s1, kx_s2, kx_sl, kx_pre, kx_c2, kx_pl, kx_cmp, kx_oF, kx_eqN, kx_nil, kx_c1, kx_ft, kx_aI, kx_aL, kx_aR, kx_ln, Nat.reduceAdd, Option.toList, List.cons_append, List.nil_append, cf8_0, cf8_2, cf8_9, cf9_16]
                repeat (simp only [cx_8w0 hw, cx_8o, cx_83 hw, cx_84 hw, hQ, hs, pk_us, pk_un, ne_eq, Nat.reduceEqDiff, not_false_eq_true, hE.2.1, cx_8n (show ¬ (67:Nat) = 68 by decide), cx_f67 hw, hT, nI_clamp (show ck_sk T n S1.1 < 2 ^ 31 by omega), nI_1, ks_eq, ks_ss]; try dsimp only [kx_wp, kx_step, kx_lI, kx_lL, kx_lA, kx_gl, kx_pI, kx_pL, kx_pR, kx_pA, kx_pV, kx_s1, kx_s2, kx_sl, kx_pre, kx_c2, kx_pl, kx_cmp, kx_oF, kx_eqN, kx_nil, kx_c1, kx_ft, kx_aI, kx_aL, kx_aR, kx_ln, Nat.reduceAdd, Option.toList, List.cons_append, List.nil_append, cf8_0, cf8_2, cf8_9, cf9_16])
                repeat' apply And.intro
                all_goals try (first | with_reducible assumption | (with_reducible refine ck_nzI ?_; simp; done) | (with_reducible refine ck_nzL ?_; simp; done) | (with_reducible refine vp_in_nI ?_ ?_ <;> first | omega | decide) | (with_reducible refine Nat.le_of_ble_eq_true ?_; rfl) | omega | exact Or.inl trivial | exact Or.inr trivial | exact Or.inl rfl | exact Or.inr rfl)
                · intro zc42
                  have ze42 := zc42
                  refine hB bX8_readProduct_123 _ _ _ _ _ _ _ kX8_readProduct_123 ?_
                  dsimp only [bX8_readProduct_123, kx_wp, kx_step, kx_lI, kx_lL, kx_lA, kx_gl, kx_pI, kx_pL, kx_pR, kx_pA, kx_pV, kx_s1, kx_s2, kx_sl, kx_pre, kx_c2, kx_pl, kx_cmp, kx_oF, kx_eqN, kx_nil, kx_c1, kx_ft, kx_aI, kx_aL, kx_aR, kx_ln, Nat.reduceAdd, Option.toList, List.cons_append, List.nil_append, cf8_0, cf8_2, cf8_9, cf9_16]
                  repeat (simp only [cx_8w0 hw, cx_8o, cx_83 hw, cx_84 hw, hQ, hs, pk_us, pk_un, ne_eq, Nat.reduceEqDiff, not_false_eq_true, hE.2.1, cx_8n (show ¬ (67:Nat) = 68 by decide), cx_f67 hw, hT, nI_clamp (show ck_sk T n S1.1 < 2 ^ 31 by omega), nI_1, ks_eq, ks_ss]; try dsimp only [kx_wp, kx_step, kx_lI, kx_lL, kx_lA, kx_gl, kx_pI, kx_pL, kx_pR, kx_pA, kx_pV, kx_s1, kx_s2, kx_sl, kx_pre, kx_c2, kx_pl, kx_cmp, kx_oF, kx_eqN, kx_nil, kx_c1, kx_ft, kx_aI, kx_aL, kx_aR, kx_ln, Nat.reduceAdd, Option.toList, List.cons_append, List.nil_append, cf8_0, cf8_2, cf8_9, cf9_16])
                  all_goals (repeat' apply And.intro)
                  all_goals (rw [hR]; first | exact cx_PE.f hg (hX hg) | exact cx_PE.t hg hER)
                · intro zc42
                  first | exact absurd rfl zc42 | exact absurd zc42 (by decide) | exact absurd (by decide) zc42 | (exfalso; first | exact absurd ((nI_leI (a := 400) (b := i) (by omega) (by omega)).mp zc15) (by omega) | exact zc59 hTs | exact zc59 (by rw [hTs]; decide) | exact zc79 hTs | exact zc79 (by rw [hTs]; decide)) | (exfalso; simp_all; done)
      · rw [cx_b1 hg]
        have hle := ck_sk_le T hsl1.1
        have hE := hE hg
        have hTf : cx_fW Q w Fo1 st1 67 = kI 0 400 T := (cx_f67 hw).trans hT
        have hlt : ck_sk T n S1.1 < n := cx_nx_lt hop (by decide)
        have hTs : T (ck_sk T n S1.1) = 42 := (if_pos hlt).symm.trans hop
        have hn42 := ct_X8_nextIs_t (l := l) (G := G) (sz := sz) (x := .ref w) hTf hE.1 hn hE.2.1 hle.2 (ch := 42) (by decide) hop
        have hE2 : cx_E T n (ck_sk T n S1.1 + 1, S1.2) (upd F1 2 (nI (ck_sk T n (ck_sk T n S1.1 + 1)))) Fo1 st1 := ⟨hE.1, rfl, hE.2.2.1, hE.2.2.2.1, hE.2.2.2.2.1, hE.2.2.2.2.2.1, hE.2.2.2.2.2.2⟩
        have hslA : ck_sl n 0 (ck_sk T n S1.1 + 1, S1.2) := ⟨hlt, fun q => Nat.le_trans (hsl1.2 hg) (Nat.le_succ_of_le hle.1)⟩
        have hlvA : ck_lv N (ck_sk T n S1.1 + 1, S1.2) := fun q => hlv1 hg
        obtain ⟨o1, o2⟩ := ck_one_g (T := T) (w := 6) hUg hsl1 hg (show ¬ ck_hcx T n S1.1 = 0 by rw [hop]; decide)
        have hUA := hUg 1 (ck_sk T n S1.1 + 1, S1.2) ⟨hlt, fun q => by have := hsl1.2 hg; show S1.2.2.2.2.1 + 1 ≤ ck_sk T n S1.1 + 1; omega⟩
        have he9 : (if S1.2.1 = -1 ∧ (ck_hcx T n S1.1 = 42 ∨ ck_hcx T n S1.1 = 47 ∨ ck_hcx T n S1.1 = 37) then ck_lpt T n U n9 (ck_one T n U (if ck_hcx T n S1.1 = 42 then 6 else if ck_hcx T n S1.1 = 47 then 7 else 8) S1) else ck_ex T n S1) = ck_te T n U S := he9
        rw [if_pos ⟨hg, (fun z => Or.inl <| z) hop⟩, if_pos hop] at he9
        have h99 : ck_one T n U 6 S1 = ck_emR 6 0 (U (ck_sk T n S1.1 + 1, S1.2)) := if_pos hg9
        rw [h99] at o1 o2 he9
        have hb9 := cx_b1 hg9
        have hc4 : (U (ck_sk T n S1.1 + 1, S1.2)).2.2.2.2.1 < 400 := by have := hUA.1.2 hg9; have := hUA.1.1; omega
        refine hB bX8_readProduct_7 _ _ _ _ _ _ _ kX8_readProduct_7 ?_
        dsimp only [bX8_readProduct_7, kx_wp, kx_step, kx_lI, kx_lL, kx_lA, kx_gl, kx_pI, kx_pL, kx_pR, kx_pA, kx_pV, kx_s1, kx_s2, kx_sl, kx_pre, kx_c2, kx_pl, kx_cmp, kx_oF, kx_eqN, kx_nil, kx_c1, kx_ft, kx_aI, kx_aL, kx_aR, kx_ln, Nat.reduceAdd, Option.toList, List.cons_append, List.nil_append, cf8_0, cf8_2, cf8_9, cf9_16]
        repeat (simp only [cx_8w0 hw, cx_8o, cx_83 hw, cx_84 hw, hQ, hs, pk_us, pk_un, ne_eq, Nat.reduceEqDiff, not_false_eq_true, hE.2.1, cx_8n (show ¬ (67:Nat) = 68 by decide), cx_f67 hw, hT, nI_clamp (show ck_sk T n S1.1 < 2 ^ 31 by omega), nI_1, ks_eq, ks_ss]; try dsimp only [kx_wp, kx_step, kx_lI, kx_lL, kx_lA, kx_gl, kx_pI, kx_pL, kx_pR, kx_pA, kx_pV, kx_s1, kx_s2, kx_sl, kx_pre, kx_c2, kx_pl, kx_cmp, kx_oF, kx_eqN, kx_nil, kx_c1, kx_ft, kx_aI, kx_aL, kx_aR, kx_ln, Nat.reduceAdd, Option.toList, List.cons_append, List.nil_append, cf8_0, cf8_2, cf8_9, cf9_16])
        repeat' apply And.intro
        all_goals try (first | with_reducible assumption | (with_reducible refine ck_nzI ?_; simp; done) | (with_reducible refine ck_nzL ?_; simp; done) | (with_reducible refine vp_in_nI ?_ ?_ <;> first | omega | decide) | (with_reducible refine Nat.le_of_ble_eq_true ?_; rfl) | omega | exact Or.inl trivial | exact Or.inr trivial | exact Or.inl rfl | exact Or.inr rfl)
        · intro zc8
          first | exact absurd rfl zc8 | exact absurd zc8 (by decide) | exact absurd (by decide) zc8 | (exfalso; first | exact absurd ((nI_leI (a := 400) (b := i) (by omega) (by omega)).mp zc15) (by omega) | exact zc59 hTs | exact zc59 (by rw [hTs]; decide) | exact zc79 hTs | exact zc79 (by rw [hTs]; decide)) | (exfalso; simp_all; done)
        · intro zc8
          have ze8 := zc8
          refine hB bX8_readProduct_11 _ _ _ _ _ _ _ kX8_readProduct_11 ?_
          dsimp only [bX8_readProduct_11, kx_wp, kx_step, kx_lI, kx_lL, kx_lA, kx_gl, kx_pI, kx_pL, kx_pR, kx_pA, kx_pV, kx_s1, kx_s2, kx_sl, kx_pre, kx_c2, kx_pl, kx_cmp, kx_oF, kx_eqN, kx_nil, kx_c1, kx_ft, kx_aI, kx_aL, kx_aR, kx_ln, Nat.reduceAdd, Option.toList, List.cons_append, List.nil_append, cf8_0, cf8_2, cf8_9, cf9_16]
          repeat (simp only [cx_8w0 hw, cx_8o, cx_83 hw, cx_84 hw, hQ, hs, pk_us, pk_un, ne_eq, Nat.reduceEqDiff, not_false_eq_true, hE.2.1, cx_8n (show ¬ (67:Nat) = 68 by decide), cx_f67 hw, hT, nI_clamp (show ck_sk T n S1.1 < 2 ^ 31 by omega), nI_1, ks_eq, ks_ss]; try dsimp only [kx_wp, kx_step, kx_lI, kx_lL, kx_lA, kx_gl, kx_pI, kx_pL, kx_pR, kx_pA, kx_pV, kx_s1, kx_s2, kx_sl, kx_pre, kx_c2, kx_pl, kx_cmp, kx_oF, kx_eqN, kx_nil, kx_c1, kx_ft, kx_aI, kx_aL, kx_aR, kx_ln, Nat.reduceAdd, Option.toList, List.cons_append, List.nil_append, cf8_0, cf8_2, cf8_9, cf9_16])
          repeat' apply And.intro
          all_goals try (first | with_reducible assumption | (with_reducible refine ck_nzI ?_; simp; done) | (with_reducible refine ck_nzL ?_; simp; done) | (with_reducible refine vp_in_nI ?_ ?_ <;> first | omega | decide) | (with_reducible refine Nat.le_of_ble_eq_true ?_; rfl) | omega | exact Or.inl trivial | exact Or.inr trivial | exact Or.inl rfl | exact Or.inr rfl)
          · intro zc15
            first | exact absurd rfl zc15 | exact absurd zc15 (by decide) | exact absurd (by decide) zc15 | (exfalso; first | exact absurd ((nI_leI (a := 400) (b := i) (by omega) (by omega)).mp zc15) (by omega) | exact zc59 hTs | exact zc59 (by rw [hTs]; decide) | exact zc79 hTs | exact zc79 (by rw [hTs]; decide)) | (exfalso; simp_all; done)
          · intro zc15
            with_reducible first | have ze15 := Int32.not_le.mp zc15 | have ze15 := zc15
            refine hB bX8_readProduct_18 _ _ _ _ _ _ _ kX8_readProduct_18 ?_
            dsimp only [bX8_readProduct_18, kx_wp, kx_step, kx_lI, kx_lL, kx_lA, kx_gl, kx_pI, kx_pL, kx_pR, kx_pA, kx_pV, kx_s1, kx_s2, kx_sl, kx_pre, kx_c2, kx_pl, kx_cmp, kx_oF, kx_eqN, kx_nil, kx_c1, kx_ft, kx_aI, kx_aL, kx_aR, kx_ln, Nat.reduceAdd, Option.toList, List.cons_append, List.nil_append, cf8_0, cf8_2, cf8_9, cf9_16]
            repeat (simp only [cx_8w0 hw, cx_8o, cx_83 hw, cx_84 hw, hQ, hs, pk_us, pk_un, ne_eq, Nat.reduceEqDiff, not_false_eq_true, hE.2.1, cx_8n (show ¬ (67:Nat) = 68 by decide), cx_f67 hw, hT, nI_clamp (show ck_sk T n S1.1 < 2 ^ 31 by omega), nI_1, ks_eq, ks_ss]; try dsimp only [kx_wp, kx_step, kx_lI, kx_lL, kx_lA, kx_gl, kx_pI, kx_pL, kx_pR, kx_pA, kx_pV, kx_s1, kx_s2, kx_sl, kx_pre, kx_c2, kx_pl, kx_cmp, kx_oF, kx_eqN, kx_nil, kx_c1, kx_ft, kx_aI, kx_aL, kx_aR, kx_ln, Nat.reduceAdd, Option.toList, List.cons_append, List.nil_append, cf8_0, cf8_2, cf8_9, cf9_16])
            repeat' apply And.intro
            all_goals try (first | with_reducible assumption | (with_reducible refine ck_nzI ?_; simp; done) | (with_reducible refine ck_nzL ?_; simp; done) | (with_reducible refine vp_in_nI ?_ ?_ <;> first | omega | decide) | (with_reducible refine Nat.le_of_ble_eq_true ?_; rfl) | omega | exact Or.inl trivial | exact Or.inr trivial | exact Or.inl rfl | exact Or.inr rfl)
            refine hC.1 54 _ _ _ _ _ _ _ 8 _ _ _ _ _ _ _ _ _ _ _ _ lX8_54 (hn42) ⟨by decide, rfl⟩ (cx_8o) rfl rfl (Nat.le_of_ble_eq_true rfl) (by first | decide | omega) (by decide) (by omega) (by omega) dX8_readProduct_21 ?_
            refine hB bX8_readProduct_24 _ _ _ _ _ _ _ kX8_readProduct_24 ?_
            dsimp only [bX8_readProduct_24, kx_wp, kx_step, kx_lI, kx_lL, kx_lA, kx_gl, kx_pI, kx_pL, kx_pR, kx_pA, kx_pV, kx_s1, kx_s2, kx_sl, kx_pre, kx_c2, kx_pl, kx_cmp, kx_oF, kx_eqN, kx_nil, kx_c1, kx_ft, kx_aI, kx_aL, kx_aR, kx_ln, Nat.reduceAdd, Option.toList, List.cons_append, List.nil_append, cf8_0, cf8_2, cf8_9, cf9_16]
            repeat (simp only [cx_8w0 hw, cx_8o, cx_83 hw, cx_84 hw, hQ, hs, pk_us, pk_un, ne_eq, Nat.reduceEqDiff, not_false_eq_true, hE.2.1, cx_8n (show ¬ (67:Nat) = 68 by decide), cx_f67 hw, hT, nI_clamp (show ck_sk T n S1.1 < 2 ^ 31 by omega), nI_1, ks_eq, ks_ss]; try dsimp only [kx_wp, kx_step, kx_lI, kx_lL, kx_lA, kx_gl, kx_pI, kx_pL, kx_pR, kx_pA, kx_pV, kx_s1, kx_s2, kx_sl, kx_pre, kx_c2, kx_pl, kx_cmp, kx_oF, kx_eqN, kx_nil, kx_c1, kx_ft, kx_aI, kx_aL, kx_aR, kx_ln, Nat.reduceAdd, Option.toList, List.cons_append, List.nil_append, cf8_0, cf8_2, cf8_9, cf9_16])
            repeat' apply And.intro
            all_goals try (first | with_reducible assumption | (with_reducible refine ck_nzI ?_; simp; done) | (with_reducible refine ck_nzL ?_; simp; done) | (with_reducible refine vp_in_nI ?_ ?_ <;> first | omega | decide) | (with_reducible refine Nat.le_of_ble_eq_true ?_; rfl) | omega | exact Or.inl trivial | exact Or.inr trivial | exact Or.inl rfl | exact Or.inr rfl)
            · intro zc24
              have ze24 := zc24
              refine hB bX8_readProduct_45 _ _ _ _ _ _ _ kX8_readProduct_45 ?_
              dsimp only [bX8_readProduct_45, kx_wp, kx_step, kx_lI, kx_lL, kx_lA, kx_gl, kx_pI, kx_pL, kx_pR, kx_pA, kx_pV, kx_s1, kx_s2, kx_sl, kx_pre, kx_c2, kx_pl, kx_cmp, kx_oF, kx_eqN, kx_nil, kx_c1, kx_ft, kx_aI, kx_aL, kx_aR, kx_ln, Nat.reduceAdd, Option.toList, List.cons_append, List.nil_append, cf8_0, cf8_2, cf8_9, cf9_16]
              repeat (simp only [cx_8w0 hw, cx_8o, cx_83 hw, cx_84 hw, hQ, hs, pk_us, pk_un, ne_eq, Nat.reduceEqDiff, not_false_eq_true, hE.2.1, cx_8n (show ¬ (67:Nat) = 68 by decide), cx_f67 hw, hT, nI_clamp (show ck_sk T n S1.1 < 2 ^ 31 by omega), nI_1, ks_eq, ks_ss]; try dsimp only [kx_wp, kx_step, kx_lI, kx_lL, kx_lA, kx_gl, kx_pI, kx_pL, kx_pR, kx_pA, kx_pV, kx_s1, kx_s2, kx_sl, kx_pre, kx_c2, kx_pl, kx_cmp, kx_oF, kx_eqN, kx_nil, kx_c1, kx_ft, kx_aI, kx_aL, kx_aR, kx_ln, Nat.reduceAdd, Option.toList, List.cons_append, List.nil_append, cf8_0, cf8_2, cf8_9, cf9_16])
              repeat' apply And.intro
              all_goals try (first | with_reducible assumption | (with_reducible refine ck_nzI ?_; simp; done) | (with_reducible refine ck_nzL ?_; simp; done) | (with_reducible refine vp_in_nI ?_ ?_ <;> first | omega | decide) | (with_reducible refine Nat.le_of_ble_eq_true ?_; rfl) | omega | exact Or.inl trivial | exact Or.inr trivial | exact Or.inl rfl | exact Or.inr rfl)
              · intro zc59
                first | exact absurd rfl zc59 | exact absurd zc59 (by decide) | exact absurd (by decide) zc59 | (exfalso; first | exact absurd ((nI_leI (a := 400) (b := i) (by omega) (by omega)).mp zc15) (by omega) | exact zc59 hTs | exact zc59 (by rw [hTs]; decide) | exact zc79 hTs | exact zc79 (by rw [hTs]; decide)) | (exfalso; simp_all; done)
              · intro zc59
                with_reducible first | have ze59 := Decidable.not_not.mp zc59 | have ze59 := zc59
                refine hB bX8_readProduct_62 _ _ _ _ _ _ _ kX8_readProduct_62 ?_
                dsimp only [bX8_readProduct_62, kx_wp, kx_step, kx_lI, kx_lL, kx_lA, kx_gl, kx_pI, kx_pL, kx_pR, kx_pA, kx_pV, kx_s1, kx_s2, kx_sl, kx_pre, kx_c2, kx_pl, kx_cmp, kx_oF, kx_eqN, kx_nil, kx_c1, kx_ft, kx_aI, kx_aL, kx_aR, kx_ln, Nat.reduceAdd, Option.toList, List.cons_append, List.nil_append, cf8_0, cf8_2, cf8_9, cf9_16]
                repeat (simp only [cx_8w0 hw, cx_8o, cx_83 hw, cx_84 hw, hQ, hs, pk_us, pk_un, ne_eq, Nat.reduceEqDiff, not_false_eq_true, hE.2.1, cx_8n (show ¬ (67:Nat) = 68 by decide), cx_f67 hw, hT, nI_clamp (show ck_sk T n S1.1 < 2 ^ 31 by omega), nI_1, ks_eq, ks_ss]; try dsimp only [kx_wp, kx_step, kx_lI, kx_lL, kx_lA, kx_gl, kx_pI, kx_pL, kx_pR, kx_pA, kx_pV, kx_s1, kx_s2, kx_sl, kx_pre, kx_c2, kx_pl, kx_cmp, kx_oF, kx_eqN, kx_nil, kx_c1, kx_ft, kx_aI, kx_aL, kx_aR, kx_ln, Nat.reduceAdd, Option.toList, List.cons_append, List.nil_append, cf8_0, cf8_2, cf8_9, cf9_16])
                repeat' apply And.intro
                all_goals try (first | with_reducible assumption | (with_reducible refine ck_nzI ?_; simp; done) | (with_reducible refine ck_nzL ?_; simp; done) | (with_reducible refine vp_in_nI ?_ ?_ <;> first | omega | decide) | (with_reducible refine Nat.le_of_ble_eq_true ?_; rfl) | omega | exact Or.inl trivial | exact Or.inr trivial | exact Or.inl rfl | exact Or.inr rfl)
                refine hB bX8_readProduct_85 _ _ _ _ _ _ _ kX8_readProduct_85 ?_
                dsimp only [bX8_readProduct_85, kx_wp, kx_step, kx_lI, kx_lL, kx_lA, kx_gl, kx_pI, kx_pL, kx_pR, kx_pA, kx_pV, kx_s1, kx_s2, kx_sl, kx_pre, kx_c2, kx_pl, kx_cmp, kx_oF, kx_eqN, kx_nil, kx_c1, kx_ft, kx_aI, kx_aL, kx_aR, kx_ln, Nat.reduceAdd, Option.toList, List.cons_append, List.nil_append, cf8_0, cf8_2, cf8_9, cf9_16]
                repeat (simp only [cx_8w0 hw, cx_8o, cx_83 hw, cx_84 hw, hQ, hs, pk_us, pk_un, ne_eq, Nat.reduceEqDiff, not_false_eq_true, hE.2.1, cx_8n (show ¬ (67:Nat) = 68 by decide), cx_f67 hw, hT, nI_clamp (show ck_sk T n S1.1 < 2 ^ 31 by omega), nI_1, ks_eq, ks_ss]; try dsimp only [kx_wp, kx_step, kx_lI, kx_lL, kx_lA, kx_gl, kx_pI, kx_pL, kx_pR, kx_pA, kx_pV, kx_s1, kx_s2, kx_sl, kx_pre, kx_c2, kx_pl, kx_cmp, kx_oF, kx_eqN, kx_nil, kx_c1, kx_ft, kx_aI, kx_aL, kx_aR, kx_ln, Nat.reduceAdd, Option.toList, List.cons_append, List.nil_append, cf8_0, cf8_2, cf8_9, cf9_16])
                repeat' apply And.intro
                all_goals try (first | with_reducible assumption | (with_reducible refine ck_nzI ?_; simp; done) | (with_reducible refine ck_nzL ?_; simp; done) | (with_reducible refine vp_in_nI ?_ ?_ <;> first | omega | decide) | (with_reducible refine Nat.le_of_ble_eq_true ?_; rfl) | omega | exact Or.inl trivial | exact Or.inr trivial | exact Or.inl rfl | exact Or.inr rfl)
                refine hC.1 46 _ _ _ _ _ _ _ 8 _ _ _ _ _ _ _ _ _ _ _ _ lX8_46 (ct_X8_skip1 l G (x := .ref w) hTf hE.1 hn hE.2.1 hlt) ⟨by decide, rfl⟩ (cx_8o) rfl rfl (Nat.le_of_ble_eq_true rfl) (by first | decide | omega) (by decide) (by omega) (by omega) dX8_readProduct_87 ?_
                dsimp only [Option.toList, List.cons_append, List.nil_append]
                refine hB bX8_readProduct_90 _ _ _ _ _ _ _ kX8_readProduct_90 ?_
                dsimp only [bX8_readProduct_90, kx_wp, kx_step, kx_lI, kx_lL, kx_lA, kx_gl, kx_pI, kx_pL, kx_pR, kx_pA, kx_pV, kx_s1, kx_s2, kx_sl, kx_pre, kx_c2, kx_pl, kx_cmp, kx_oF, kx_eqN, kx_nil, kx_c1, kx_ft, kx_aI, kx_aL, kx_aR, kx_ln, Nat.reduceAdd, Option.toList, List.cons_append, List.nil_append, cf8_0, cf8_2, cf8_9, cf9_16]
                repeat (simp only [cx_8w0 hw, cx_8o, cx_83 hw, cx_84 hw, hQ, hs, pk_us, pk_un, ne_eq, Nat.reduceEqDiff, not_false_eq_true, hE.2.1, cx_8n (show ¬ (67:Nat) = 68 by decide), cx_f67 hw, hT, nI_clamp (show ck_sk T n S1.1 < 2 ^ 31 by omega), nI_1, ks_eq, ks_ss]; try dsimp only [kx_wp, kx_step, kx_lI, kx_lL, kx_lA, kx_gl, kx_pI, kx_pL, kx_pR, kx_pA, kx_pV, kx_s1, kx_s2, kx_sl, kx_pre, kx_c2, kx_pl, kx_cmp, kx_oF, kx_eqN, kx_nil, kx_c1, kx_ft, kx_aI, kx_aL, kx_aR, kx_ln, Nat.reduceAdd, Option.toList, List.cons_append, List.nil_append, cf8_0, cf8_2, cf8_9, cf9_16])
                repeat' apply And.intro
                all_goals try (first | with_reducible assumption | (with_reducible refine ck_nzI ?_; simp; done) | (with_reducible refine ck_nzL ?_; simp; done) | (with_reducible refine vp_in_nI ?_ ?_ <;> first | omega | decide) | (with_reducible refine Nat.le_of_ble_eq_true ?_; rfl) | omega | exact Or.inl trivial | exact Or.inr trivial | exact Or.inl rfl | exact Or.inr rfl)
                refine hN.1 212 _ _ _ _ _ _ _ 8 _ _ _ _ _ _ _ _ _ _ lX8_212 (hU (ck_sk T n S1.1 + 1, S1.2) hg hslA hlvA _ _ _ hE2) ⟨by decide, rfl⟩ (cx_8o) rfl rfl (Nat.le_of_ble_eq_true rfl) (by omega) (by decide) (by omega) (by omega) dX8_readProduct_91 ?_
                rintro r2 P2 s2 ⟨F2, Fo2, st2, rfl, rfl, rfl, hE3, hX3⟩
                rw [hb9]
                dsimp only [Option.toList, List.cons_append, List.nil_append]
                refine hB bX8_readProduct_94 _ _ _ _ _ _ _ kX8_readProduct_94 ?_
                dsimp only [bX8_readProduct_94, kx_wp, kx_step, kx_lI, kx_lL, kx_lA, kx_gl, kx_pI, kx_pL, kx_pR, kx_pA, kx_pV, kx_s1, kx_s2, kx_sl, kx_pre, kx_c2, kx_pl, kx_cmp, kx_oF, kx_eqN, kx_nil, kx_c1, kx_ft, kx_aI, kx_aL, kx_aR, kx_ln, Nat.reduceAdd, Option.toList, List.cons_append, List.nil_append, cf8_0, cf8_2, cf8_9, cf9_16]
                repeat (simp only [cx_8w0 hw, cx_8o, cx_83 hw, cx_84 hw, hQ, hs, pk_us, pk_un, ne_eq, Nat.reduceEqDiff, not_false_eq_true, hE.2.1, cx_8n (show ¬ (67:Nat) = 68 by decide), cx_f67 hw, hT, nI_clamp (show ck_sk T n S1.1 < 2 ^ 31 by omega), nI_1, ks_eq, ks_ss]; try dsimp only [kx_wp, kx_step, kx_lI, kx_lL, kx_lA, kx_gl, kx_pI, kx_pL, kx_pR, kx_pA, kx_pV, kx_s1, kx_s2, kx_sl, kx_pre, kx_c2, kx_pl, kx_cmp, kx_oF, kx_eqN, kx_nil, kx_c1, kx_ft, kx_aI, kx_aL, kx_aR, kx_ln, Nat.reduceAdd, Option.toList, List.cons_append, List.nil_append, cf8_0, cf8_2, cf8_9, cf9_16])
                repeat' apply And.intro
                all_goals try (first | with_reducible assumption | (with_reducible refine ck_nzI ?_; simp; done) | (with_reducible refine ck_nzL ?_; simp; done) | (with_reducible refine vp_in_nI ?_ ?_ <;> first | omega | decide) | (with_reducible refine Nat.le_of_ble_eq_true ?_; rfl) | omega | exact Or.inl trivial | exact Or.inr trivial | exact Or.inl rfl | exact Or.inr rfl)
                · intro zc94
                  first | exact absurd rfl zc94 | exact absurd zc94 (by decide) | exact absurd (by decide) zc94 | (exfalso; first | exact absurd ((nI_leI (a := 400) (b := i) (by omega) (by omega)).mp zc15) (by omega) | exact zc59 hTs | exact zc59 (by rw [hTs]; decide) | exact zc79 hTs | exact zc79 (by rw [hTs]; decide)) | (exfalso; simp_all; done)
                · intro zc94
                  have ze94 := zc94
                  refine hB bX8_readProduct_97 _ _ _ _ _ _ _ kX8_readProduct_97 ?_
                  dsimp only [bX8_readProduct_97, kx_wp, kx_step, kx_lI, kx_lL, kx_lA, kx_gl, kx_pI, kx_pL, kx_pR, kx_pA, kx_pV, kx_s1, kx_s2, kx_sl, kx_pre, kx_c2, kx_pl, kx_cmp, kx_oF, kx_eqN, kx_nil, kx_c1, kx_ft, kx_aI, kx_aL, kx_aR, kx_ln, Nat.reduceAdd, Option.toList, List.cons_append, List.nil_append, cf8_0, cf8_2, cf8_9, cf9_16]
                  repeat (simp only [cx_8w0 hw, cx_8o, cx_83 hw, cx_84 hw, hQ, hs, pk_us, pk_un, ne_eq, Nat.reduceEqDiff, not_false_eq_true, hE.2.1, cx_8n (show ¬ (67:Nat) = 68 by decide), cx_f67 hw, hT, nI_clamp (show ck_sk T n S1.1 < 2 ^ 31 by omega), nI_1, ks_eq, ks_ss]; try dsimp only [kx_wp, kx_step, kx_lI, kx_lL, kx_lA, kx_gl, kx_pI, kx_pL, kx_pR, kx_pA, kx_pV, kx_s1, kx_s2, kx_sl, kx_pre, kx_c2, kx_pl, kx_cmp, kx_oF, kx_eqN, kx_nil, kx_c1, kx_ft, kx_aI, kx_aL, kx_aR, kx_ln, Nat.reduceAdd, Option.toList, List.cons_append, List.nil_append, cf8_0, cf8_2, cf8_9, cf9_16])
                  repeat' apply And.intro
                  all_goals try (first | with_reducible assumption | (with_reducible refine ck_nzI ?_; simp; done) | (with_reducible refine ck_nzL ?_; simp; done) | (with_reducible refine vp_in_nI ?_ ?_ <;> first | omega | decide) | (with_reducible refine Nat.le_of_ble_eq_true ?_; rfl) | omega | exact Or.inl trivial | exact Or.inr trivial | exact Or.inl rfl | exact Or.inr rfl)
                  refine hC.1 209 _ _ _ _ _ _ _ 2 _ _ _ _ _ _ _ _ _ _ _ _ lX8_209 (ct_X2_add l G (P := Q) hw (hE3 hg9).2.2.2.2.2.1 hc4) ⟨by decide, rfl⟩ (cx_83 hw) rfl rfl (Nat.le_of_ble_eq_true rfl) (by first | decide | omega) (by decide) (by omega) (by omega) dX8_readProduct_105 ?_
                  refine hB bX8_readProduct_108 _ _ _ _ _ _ _ kX8_readProduct_108 ?_
                  dsimp only [bX8_readProduct_108, kx_wp, kx_step, kx_lI, kx_lL, kx_lA, kx_gl, kx_pI, kx_pL, kx_pR, kx_pA, kx_pV, kx_s1, kx_s2, kx_sl, kx_pre, kx_c2, kx_pl, kx_cmp, kx_oF, kx_eqN, kx_nil, kx_c1, kx_ft, kx_aI, kx_aL, kx_aR, kx_ln, Nat.reduceAdd, Option.toList, List.cons_append, List.nil_append, cf8_0, cf8_2, cf8_9, cf9_16]
                  repeat (simp only [cx_8w0 hw, cx_8o, cx_83 hw, cx_84 hw, hQ, hs, pk_us, pk_un, ne_eq, Nat.reduceEqDiff, not_false_eq_true, hE.2.1, cx_8n (show ¬ (67:Nat) = 68 by decide), cx_f67 hw, hT, nI_clamp (show ck_sk T n S1.1 < 2 ^ 31 by omega), nI_1, ks_eq, ks_ss]; try dsimp only [kx_wp, kx_step, kx_lI, kx_lL, kx_lA, kx_gl, kx_pI, kx_pL, kx_pR, kx_pA, kx_pV, kx_s1, kx_s2, kx_sl, kx_pre, kx_c2, kx_pl, kx_cmp, kx_oF, kx_eqN, kx_nil, kx_c1, kx_ft, kx_aI, kx_aL, kx_aR, kx_ln, Nat.reduceAdd, Option.toList, List.cons_append, List.nil_append, cf8_0, cf8_2, cf8_9, cf9_16])
                  repeat' apply And.intro
                  all_goals try (first | with_reducible assumption | (with_reducible refine ck_nzI ?_; simp; done) | (with_reducible refine ck_nzL ?_; simp; done) | (with_reducible refine vp_in_nI ?_ ?_ <;> first | omega | decide) | (with_reducible refine Nat.le_of_ble_eq_true ?_; rfl) | omega | exact Or.inl trivial | exact Or.inr trivial | exact Or.inl rfl | exact Or.inr rfl)
                  · intro zc108
                    first | exact absurd rfl zc108 | exact absurd zc108 (by decide) | exact absurd (by decide) zc108 | (exfalso; first | exact absurd ((nI_leI (a := 400) (b := i) (by omega) (by omega)).mp zc15) (by omega) | exact zc59 hTs | exact zc59 (by rw [hTs]; decide) | exact zc79 hTs | exact zc79 (by rw [hTs]; decide)) | (exfalso; simp_all; done)
                  · intro zc108
                    have ze108 := zc108
                    refine hB bX8_readProduct_111 _ _ _ _ _ _ _ kX8_readProduct_111 ?_
                    dsimp only [bX8_readProduct_111, kx_wp, kx_step, kx_lI, kx_lL, kx_lA, kx_gl, kx_pI, kx_pL, kx_pR, kx_pA, kx_pV, kx_s1, kx_s2, kx_sl, kx_pre, kx_c2, kx_pl, kx_cmp, kx_oF, kx_eqN, kx_nil, kx_c1, kx_ft, kx_aI, kx_aL, kx_aR, kx_ln, Nat.reduceAdd, Option.toList, List.cons_append, List.nil_append, cf8_0, cf8_2, cf8_9, cf9_16]
                    repeat (simp only [cx_8w0 hw, cx_8o, cx_83 hw, cx_84 hw, hQ, hs, pk_us, pk_un, ne_eq, Nat.reduceEqDiff, not_false_eq_true, hE.2.1, cx_8n (show ¬ (67:Nat) = 68 by decide), cx_f67 hw, hT, nI_clamp (show ck_sk T n S1.1 < 2 ^ 31 by omega), nI_1, ks_eq, ks_ss]; try dsimp only [kx_wp, kx_step, kx_lI, kx_lL, kx_lA, kx_gl, kx_pI, kx_pL, kx_pR, kx_pA, kx_pV, kx_s1, kx_s2, kx_sl, kx_pre, kx_c2, kx_pl, kx_cmp, kx_oF, kx_eqN, kx_nil, kx_c1, kx_ft, kx_aI, kx_aL, kx_aR, kx_ln, Nat.reduceAdd, Option.toList, List.cons_append, List.nil_append, cf8_0, cf8_2, cf8_9, cf9_16])
                    repeat' apply And.intro
                    all_goals try (first | with_reducible assumption | (with_reducible refine ck_nzI ?_; simp; done) | (with_reducible refine ck_nzL ?_; simp; done) | (with_reducible refine vp_in_nI ?_ ?_ <;> first | omega | decide) | (with_reducible refine Nat.le_of_ble_eq_true ?_; rfl) | omega | exact Or.inl trivial | exact Or.inr trivial | exact Or.inl rfl | exact Or.inr rfl)
                    refine hB bX8_readProduct_116 _ _ _ _ _ _ _ kX8_readProduct_116 ?_
                    dsimp only [bX8_readProduct_116, kx_wp, kx_step, kx_lI, kx_lL, kx_lA, kx_gl, kx_pI, kx_pL, kx_pR, kx_pA, kx_pV, kx_s1, kx_s2, kx_sl, kx_pre, kx_c2, kx_pl, kx_cmp, kx_oF, kx_eqN, kx_nil, kx_c1, kx_ft, kx_aI, kx_aL, kx_aR, kx_ln, Nat.reduceAdd, Option.toList, List.cons_append, List.nil_append, cf8_0, cf8_2, cf8_9, cf9_16]
                    repeat (simp only [cx_8w0 hw, cx_8o, cx_83 hw, cx_84 hw, hQ, hs, pk_us, pk_un, ne_eq, Nat.reduceEqDiff, not_false_eq_true, hE.2.1, cx_8n (show ¬ (67:Nat) = 68 by decide), cx_f67 hw, hT, nI_clamp (show ck_sk T n S1.1 < 2 ^ 31 by omega), nI_1, ks_eq, ks_ss]; try dsimp only [kx_wp, kx_step, kx_lI, kx_lL, kx_lA, kx_gl, kx_pI, kx_pL, kx_pR, kx_pA, kx_pV, kx_s1, kx_s2, kx_sl, kx_pre, kx_c2, kx_pl, kx_cmp, kx_oF, kx_eqN, kx_nil, kx_c1, kx_ft, kx_aI, kx_aL, kx_aR, kx_ln, Nat.reduceAdd, Option.toList, List.cons_append, List.nil_append, cf8_0, cf8_2, cf8_9, cf9_16])
                    repeat' apply And.intro
                    all_goals try (first | with_reducible assumption | (with_reducible refine ck_nzI ?_; simp; done) | (with_reducible refine ck_nzL ?_; simp; done) | (with_reducible refine vp_in_nI ?_ ?_ <;> first | omega | decide) | (with_reducible refine Nat.le_of_ble_eq_true ?_; rfl) | omega | exact Or.inl trivial | exact Or.inr trivial | exact Or.inl rfl | exact Or.inr rfl)
                    have zi := ih (ck_emR 6 0 (U (ck_sk T n S1.1 + 1, S1.2))) F2 _ _ (i + 1) (some (.int (-6))) (fun _ => (hE3 hg9).em (Or.inr ⟨6, by decide, by decide, rfl, rfl⟩)) (fun q => absurd hg9 q) (ck_sl_0 o1.1) (ck_lv_g o1 hlv1) (fun _ => by have := hnn hg; omega) (by omega) he9
                    rw [cx_b1 (show (ck_emR 6 0 (U (ck_sk T n S1.1 + 1, S1.2))).2.1 = -1 from hg9)] at zi
                    exact zi
            · intro zc24
              first | exact absurd rfl zc24 | exact absurd zc24 (by decide) | exact absurd (by decide) zc24 | (exfalso; first | exact absurd ((nI_leI (a := 400) (b := i) (by omega) (by omega)).mp zc15) (by omega) | exact zc59 hTs | exact zc59 (by rw [hTs]; decide) | exact zc79 hTs | exact zc79 (by rw [hTs]; decide)) | (exfalso; simp_all; done)
      · rw [cx_b1 hg]
        have hle := ck_sk_le T hsl1.1
        have hE := hE hg
        have hTf : cx_fW Q w Fo1 st1 67 = kI 0 400 T := (cx_f67 hw).trans hT
        have hlt : ck_sk T n S1.1 < n := cx_nx_lt hop (by decide)
        have hTs : T (ck_sk T n S1.1) = 42 := (if_pos hlt).symm.trans hop
        have hn42 := ct_X8_nextIs_t (l := l) (G := G) (sz := sz) (x := .ref w) hTf hE.1 hn hE.2.1 hle.2 (ch := 42) (by decide) hop
        have hE2 : cx_E T n (ck_sk T n S1.1 + 1, S1.2) (upd F1 2 (nI (ck_sk T n (ck_sk T n S1.1 + 1)))) Fo1 st1 := ⟨hE.1, rfl, hE.2.2.1, hE.2.2.2.1, hE.2.2.2.2.1, hE.2.2.2.2.2.1, hE.2.2.2.2.2.2⟩
        have hslA : ck_sl n 0 (ck_sk T n S1.1 + 1, S1.2) := ⟨hlt, fun q => Nat.le_trans (hsl1.2 hg) (Nat.le_succ_of_le hle.1)⟩
        have hlvA : ck_lv N (ck_sk T n S1.1 + 1, S1.2) := fun q => hlv1 hg
        obtain ⟨o1, o2⟩ := ck_one_g (T := T) (w := 6) hUg hsl1 hg (show ¬ ck_hcx T n S1.1 = 0 by rw [hop]; decide)
        have hUA := hUg 1 (ck_sk T n S1.1 + 1, S1.2) ⟨hlt, fun q => by have := hsl1.2 hg; show S1.2.2.2.2.1 + 1 ≤ ck_sk T n S1.1 + 1; omega⟩
        have he9 : (if S1.2.1 = -1 ∧ (ck_hcx T n S1.1 = 42 ∨ ck_hcx T n S1.1 = 47 ∨ ck_hcx T n S1.1 = 37) then ck_lpt T n U n9 (ck_one T n U (if ck_hcx T n S1.1 = 42 then 6 else if ck_hcx T n S1.1 = 47 then 7 else 8) S1) else ck_ex T n S1) = ck_te T n U S := he9
        rw [if_pos ⟨hg, (fun z => Or.inl <| z) hop⟩, if_pos hop] at he9
        have h99 : ck_one T n U 6 S1 = U (ck_sk T n S1.1 + 1, S1.2) := if_neg hg9
        rw [h99] at o1 o2 he9
        have hb9 := cx_b0 hg9
        refine hB bX8_readProduct_7 _ _ _ _ _ _ _ kX8_readProduct_7 ?_
        dsimp only [bX8_readProduct_7, kx_wp, kx_step, kx_lI, kx_lL, kx_lA, kx_gl, kx_pI, kx_pL, kx_pR, kx_pA, kx_pV, kx_s1, kx_s2, kx_sl, kx_pre, kx_c2, kx_pl, kx_cmp, kx_oF, kx_eqN, kx_nil, kx_c1, kx_ft, kx_aI, kx_aL, kx_aR, kx_ln, Nat.reduceAdd, Option.toList, List.cons_append, List.nil_append, cf8_0, cf8_2, cf8_9, cf9_16]
        repeat (simp only [cx_8w0 hw, cx_8o, cx_83 hw, cx_84 hw, hQ, hs, pk_us, pk_un, ne_eq, Nat.reduceEqDiff, not_false_eq_true, hE.2.1, cx_8n (show ¬ (67:Nat) = 68 by decide), cx_f67 hw, hT, nI_clamp (show ck_sk T n S1.1 < 2 ^ 31 by omega), nI_1, ks_eq, ks_ss]; try dsimp only [kx_wp, kx_step, kx_lI, kx_lL, kx_lA, kx_gl, kx_pI, kx_pL, kx_pR, kx_pA, kx_pV, kx_s1, kx_s2, kx_sl, kx_pre, kx_c2, kx_pl, kx_cmp, kx_oF, kx_eqN, kx_nil, kx_c1, kx_ft, kx_aI, kx_aL, kx_aR, kx_ln, Nat.reduceAdd, Option.toList, List.cons_append, List.nil_append, cf8_0, cf8_2, cf8_9, cf9_16])
        repeat' apply And.intro
        all_goals try (first | with_reducible assumption | (with_reducible refine ck_nzI ?_; simp; done) | (with_reducible refine ck_nzL ?_; simp; done) | (with_reducible refine vp_in_nI ?_ ?_ <;> first | omega | decide) | (with_reducible refine Nat.le_of_ble_eq_true ?_; rfl) | omega | exact Or.inl trivial | exact Or.inr trivial | exact Or.inl rfl | exact Or.inr rfl)
        · intro zc8
          first | exact absurd rfl zc8 | exact absurd zc8 (by decide) | exact absurd (by decide) zc8 | (exfalso; first | exact absurd ((nI_leI (a := 400) (b := i) (by omega) (by omega)).mp zc15) (by omega) | exact zc59 hTs | exact zc59 (by rw [hTs]; decide) | exact zc79 hTs | exact zc79 (by rw [hTs]; decide)) | (exfalso; simp_all; done)
        · intro zc8
          have ze8 := zc8
          refine hB bX8_readProduct_11 _ _ _ _ _ _ _ kX8_readProduct_11 ?_
          dsimp only [bX8_readProduct_11, kx_wp, kx_step, kx_lI, kx_lL, kx_lA, kx_gl, kx_pI, kx_pL, kx_pR, kx_pA, kx_pV, kx_s1, kx_s2, kx_sl, kx_pre, kx_c2, kx_pl, kx_cmp, kx_oF, kx_eqN, kx_nil, kx_c1, kx_ft, kx_aI, kx_aL, kx_aR, kx_ln, Nat.reduceAdd, Option.toList, List.cons_append, List.nil_append, cf8_0, cf8_2, cf8_9, cf9_16]
          repeat (simp only [cx_8w0 hw, cx_8o, cx_83 hw, cx_84 hw, hQ, hs, pk_us, pk_un, ne_eq, Nat.reduceEqDiff, not_false_eq_true, hE.2.1, cx_8n (show ¬ (67:Nat) = 68 by decide), cx_f67 hw, hT, nI_clamp (show ck_sk T n S1.1 < 2 ^ 31 by omega), nI_1, ks_eq, ks_ss]; try dsimp only [kx_wp, kx_step, kx_lI, kx_lL, kx_lA, kx_gl, kx_pI, kx_pL, kx_pR, kx_pA, kx_pV, kx_s1, kx_s2, kx_sl, kx_pre, kx_c2, kx_pl, kx_cmp, kx_oF, kx_eqN, kx_nil, kx_c1, kx_ft, kx_aI, kx_aL, kx_aR, kx_ln, Nat.reduceAdd, Option.toList, List.cons_append, List.nil_append, cf8_0, cf8_2, cf8_9, cf9_16])
          repeat' apply And.intro
          all_goals try (first | with_reducible assumption | (with_reducible refine ck_nzI ?_; simp; done) | (with_reducible refine ck_nzL ?_; simp; done) | (with_reducible refine vp_in_nI ?_ ?_ <;> first | omega | decide) | (with_reducible refine Nat.le_of_ble_eq_true ?_; rfl) | omega | exact Or.inl trivial | exact Or.inr trivial | exact Or.inl rfl | exact Or.inr rfl)
          · intro zc15
            first | exact absurd rfl zc15 | exact absurd zc15 (by decide) | exact absurd (by decide) zc15 | (exfalso; first | exact absurd ((nI_leI (a := 400) (b := i) (by omega) (by omega)).mp zc15) (by omega) | exact zc59 hTs | exact zc59 (by rw [hTs]; decide) | exact zc79 hTs | exact zc79 (by rw [hTs]; decide)) | (exfalso; simp_all; done)
          · intro zc15
            with_reducible first | have ze15 := Int32.not_le.mp zc15 | have ze15 := zc15
            refine hB bX8_readProduct_18 _ _ _ _ _ _ _ kX8_readProduct_18 ?_
            dsimp only [bX8_readProduct_18, kx_wp, kx_step, kx_lI, kx_lL, kx_lA, kx_gl, kx_pI, kx_pL, kx_pR, kx_pA, kx_pV, kx_s1, kx_s2, kx_sl, kx_pre, kx_c2, kx_pl, kx_cmp, kx_oF, kx_eqN, kx_nil, kx_c1, kx_ft, kx_aI, kx_aL, kx_aR, kx_ln, Nat.reduceAdd, Option.toList, List.cons_append, List.nil_append, cf8_0, cf8_2, cf8_9, cf9_16]
            repeat (simp only [cx_8w0 hw, cx_8o, cx_83 hw, cx_84 hw, hQ, hs, pk_us, pk_un, ne_eq, Nat.reduceEqDiff, not_false_eq_true, hE.2.1, cx_8n (show ¬ (67:Nat) = 68 by decide), cx_f67 hw, hT, nI_clamp (show ck_sk T n S1.1 < 2 ^ 31 by omega), nI_1, ks_eq, ks_ss]; try dsimp only [kx_wp, kx_step, kx_lI, kx_lL, kx_lA, kx_gl, kx_pI, kx_pL, kx_pR, kx_pA, kx_pV, kx_s1, kx_s2, kx_sl, kx_pre, kx_c2, kx_pl, kx_cmp, kx_oF, kx_eqN, kx_nil, kx_c1, kx_ft, kx_aI, kx_aL, kx_aR, kx_ln, Nat.reduceAdd, Option.toList, List.cons_append, List.nil_append, cf8_0, cf8_2, cf8_9, cf9_16])
            repeat' apply And.intro
            all_goals try (first | with_reducible assumption | (with_reducible refine ck_nzI ?_; simp; done) | (with_reducible refine ck_nzL ?_; simp; done) | (with_reducible refine vp_in_nI ?_ ?_ <;> first | omega | decide) | (with_reducible refine Nat.le_of_ble_eq_true ?_; rfl) | omega | exact Or.inl trivial | exact Or.inr trivial | exact Or.inl rfl | exact Or.inr rfl)
            refine hC.1 54 _ _ _ _ _ _ _ 8 _ _ _ _ _ _ _ _ _ _ _ _ lX8_54 (hn42) ⟨by decide, rfl⟩ (cx_8o) rfl rfl (Nat.le_of_ble_eq_true rfl) (by first | decide | omega) (by decide) (by omega) (by omega) dX8_readProduct_21 ?_
            refine hB bX8_readProduct_24 _ _ _ _ _ _ _ kX8_readProduct_24 ?_
            dsimp only [bX8_readProduct_24, kx_wp, kx_step, kx_lI, kx_lL, kx_lA, kx_gl, kx_pI, kx_pL, kx_pR, kx_pA, kx_pV, kx_s1, kx_s2, kx_sl, kx_pre, kx_c2, kx_pl, kx_cmp, kx_oF, kx_eqN, kx_nil, kx_c1, kx_ft, kx_aI, kx_aL, kx_aR, kx_ln, Nat.reduceAdd, Option.toList, List.cons_append, List.nil_append, cf8_0, cf8_2, cf8_9, cf9_16]
            repeat (simp only [cx_8w0 hw, cx_8o, cx_83 hw, cx_84 hw, hQ, hs, pk_us, pk_un, ne_eq, Nat.reduceEqDiff, not_false_eq_true, hE.2.1, cx_8n (show ¬ (67:Nat) = 68 by decide), cx_f67 hw, hT, nI_clamp (show ck_sk T n S1.1 < 2 ^ 31 by omega), nI_1, ks_eq, ks_ss]; try dsimp only [kx_wp, kx_step, kx_lI, kx_lL, kx_lA, kx_gl, kx_pI, kx_pL, kx_pR, kx_pA, kx_pV, kx_s1, kx_s2, kx_sl, kx_pre, kx_c2, kx_pl, kx_cmp, kx_oF, kx_eqN, kx_nil, kx_c1, kx_ft, kx_aI, kx_aL, kx_aR, kx_ln, Nat.reduceAdd, Option.toList, List.cons_append, List.nil_append, cf8_0, cf8_2, cf8_9, cf9_16])
            repeat' apply And.intro
            all_goals try (first | with_reducible assumption | (with_reducible refine ck_nzI ?_; simp; done) | (with_reducible refine ck_nzL ?_; simp; done) | (with_reducible refine vp_in_nI ?_ ?_ <;> first | omega | decide) | (with_reducible refine Nat.le_of_ble_eq_true ?_; rfl) | omega | exact Or.inl trivial | exact Or.inr trivial | exact Or.inl rfl | exact Or.inr rfl)
            · intro zc24
              have ze24 := zc24
              refine hB bX8_readProduct_45 _ _ _ _ _ _ _ kX8_readProduct_45 ?_
              dsimp only [bX8_readProduct_45, kx_wp, kx_step, kx_lI, kx_lL, kx_lA, kx_gl, kx_pI, kx_pL, kx_pR, kx_pA, kx_pV, kx_s1, kx_s2, kx_sl, kx_pre, kx_c2, kx_pl, kx_cmp, kx_oF, kx_eqN, kx_nil, kx_c1, kx_ft, kx_aI, kx_aL, kx_aR, kx_ln, Nat.reduceAdd, Option.toList, List.cons_append, List.nil_append, cf8_0, cf8_2, cf8_9, cf9_16]
              repeat (simp only [cx_8w0 hw, cx_8o, cx_83 hw, cx_84 hw, hQ, hs, pk_us, pk_un, ne_eq, Nat.reduceEqDiff, not_false_eq_true, hE.2.1, cx_8n (show ¬ (67:Nat) = 68 by decide), cx_f67 hw, hT, nI_clamp (show ck_sk T n S1.1 < 2 ^ 31 by omega), nI_1, ks_eq, ks_ss]; try dsimp only [kx_wp, kx_step, kx_lI, kx_lL, kx_lA, kx_gl, kx_pI, kx_pL, kx_pR, kx_pA, kx_pV, kx_s1, kx_s2, kx_sl, kx_pre, kx_c2, kx_pl, kx_cmp, kx_oF, kx_eqN, kx_nil, kx_c1, kx_ft, kx_aI, kx_aL, kx_aR, kx_ln, Nat.reduceAdd, Option.toList, List.cons_append, List.nil_append, cf8_0, cf8_2, cf8_9, cf9_16])
              repeat' apply And.intro
              all_goals try (first | with_reducible assumption | (with_reducible refine ck_nzI ?_; simp; done) | (with_reducible refine ck_nzL ?_; simp; done) | (with_reducible refine vp_in_nI ?_ ?_ <;> first | omega | decide) | (with_reducible refine Nat.le_of_ble_eq_true ?_; rfl) | omega | exact Or.inl trivial | exact Or.inr trivial | exact Or.inl rfl | exact Or.inr rfl)
              · intro zc59
                first | exact absurd rfl zc59 | exact absurd zc59 (by decide) | exact absurd (by decide) zc59 | (exfalso; first | exact absurd ((nI_leI (a := 400) (b := i) (by omega) (by omega)).mp zc15) (by omega) | exact zc59 hTs | exact zc59 (by rw [hTs]; decide) | exact zc79 hTs | exact zc79 (by rw [hTs]; decide)) | (exfalso; simp_all; done)
              · intro zc59
                with_reducible first | have ze59 := Decidable.not_not.mp zc59 | have ze59 := zc59
                refine hB bX8_readProduct_62 _ _ _ _ _ _ _ kX8_readProduct_62 ?_
                dsimp only [bX8_readProduct_62, kx_wp, kx_step, kx_lI, kx_lL, kx_lA, kx_gl, kx_pI, kx_pL, kx_pR, kx_pA, kx_pV, kx_s1, kx_s2, kx_sl, kx_pre, kx_c2, kx_pl, kx_cmp, kx_oF, kx_eqN, kx_nil, kx_c1, kx_ft, kx_aI, kx_aL, kx_aR, kx_ln, Nat.reduceAdd, Option.toList, List.cons_append, List.nil_append, cf8_0, cf8_2, cf8_9, cf9_16]
                repeat (simp only [cx_8w0 hw, cx_8o, cx_83 hw, cx_84 hw, hQ, hs, pk_us, pk_un, ne_eq, Nat.reduceEqDiff, not_false_eq_true, hE.2.1, cx_8n (show ¬ (67:Nat) = 68 by decide), cx_f67 hw, hT, nI_clamp (show ck_sk T n S1.1 < 2 ^ 31 by omega), nI_1, ks_eq, ks_ss]; try dsimp only [kx_wp, kx_step, kx_lI, kx_lL, kx_lA, kx_gl, kx_pI, kx_pL, kx_pR, kx_pA, kx_pV, kx_s1, kx_s2, kx_sl, kx_pre, kx_c2, kx_pl, kx_cmp, kx_oF, kx_eqN, kx_nil, kx_c1, kx_ft, kx_aI, kx_aL, kx_aR, kx_ln, Nat.reduceAdd, Option.toList, List.cons_append, List.nil_append, cf8_0, cf8_2, cf8_9, cf9_16])
                repeat' apply And.intro
                all_goals try (first | with_reducible assumption | (with_reducible refine ck_nzI ?_; simp; done) | (with_reducible refine ck_nzL ?_; simp; done) | (with_reducible refine vp_in_nI ?_ ?_ <;> first | omega | decide) | (with_reducible refine Nat.le_of_ble_eq_true ?_; rfl) | omega | exact Or.inl trivial | exact Or.inr trivial | exact Or.inl rfl | exact Or.inr rfl)
                refine hB bX8_readProduct_85 _ _ _ _ _ _ _ kX8_readProduct_85 ?_
                dsimp only [bX8_readProduct_85, kx_wp, kx_step, kx_lI, kx_lL, kx_lA, kx_gl, kx_pI, kx_pL, kx_pR, kx_pA, kx_pV, kx_s1, kx_s2, kx_sl, kx_pre, kx_c2, kx_pl, kx_cmp, kx_oF, kx_eqN, kx_nil, kx_c1, kx_ft, kx_aI, kx_aL, kx_aR, kx_ln, Nat.reduceAdd, Option.toList, List.cons_append, List.nil_append, cf8_0, cf8_2, cf8_9, cf9_16]
                repeat (simp only [cx_8w0 hw, cx_8o, cx_83 hw, cx_84 hw, hQ, hs, pk_us, pk_un, ne_eq, Nat.reduceEqDiff, not_false_eq_true, hE.2.1, cx_8n (show ¬ (67:Nat) = 68 by decide), cx_f67 hw, hT, nI_clamp (show ck_sk T n S1.1 < 2 ^ 31 by omega), nI_1, ks_eq, ks_ss]; try dsimp only [kx_wp, kx_step, kx_lI, kx_lL, kx_lA, kx_gl, kx_pI, kx_pL, kx_pR, kx_pA, kx_pV, kx_s1, kx_s2, kx_sl, kx_pre, kx_c2, kx_pl, kx_cmp, kx_oF, kx_eqN, kx_nil, kx_c1, kx_ft, kx_aI, kx_aL, kx_aR, kx_ln, Nat.reduceAdd, Option.toList, List.cons_append, List.nil_append, cf8_0, cf8_2, cf8_9, cf9_16])
                repeat' apply And.intro
                all_goals try (first | with_reducible assumption | (with_reducible refine ck_nzI ?_; simp; done) | (with_reducible refine ck_nzL ?_; simp; done) | (with_reducible refine vp_in_nI ?_ ?_ <;> first | omega | decide) | (with_reducible refine Nat.le_of_ble_eq_true ?_; rfl) | omega | exact Or.inl trivial | exact Or.inr trivial | exact Or.inl rfl | exact Or.inr rfl)
                refine hC.1 46 _ _ _ _ _ _ _ 8 _ _ _ _ _ _ _ _ _ _ _ _ lX8_46 (ct_X8_skip1 l G (x := .ref w) hTf hE.1 hn hE.2.1 hlt) ⟨by decide, rfl⟩ (cx_8o) rfl rfl (Nat.le_of_ble_eq_true rfl) (by first | decide | omega) (by decide) (by omega) (by omega) dX8_readProduct_87 ?_
                dsimp only [Option.toList, List.cons_append, List.nil_append]
                refine hB bX8_readProduct_90 _ _ _ _ _ _ _ kX8_readProduct_90 ?_
                dsimp only [bX8_readProduct_90, kx_wp, kx_step, kx_lI, kx_lL, kx_lA, kx_gl, kx_pI, kx_pL, kx_pR, kx_pA, kx_pV, kx_s1, kx_s2, kx_sl, kx_pre, kx_c2, kx_pl, kx_cmp, kx_oF, kx_eqN, kx_nil, kx_c1, kx_ft, kx_aI, kx_aL, kx_aR, kx_ln, Nat.reduceAdd, Option.toList, List.cons_append, List.nil_append, cf8_0, cf8_2, cf8_9, cf9_16]
                repeat (simp only [cx_8w0 hw, cx_8o, cx_83 hw, cx_84 hw, hQ, hs, pk_us, pk_un, ne_eq, Nat.reduceEqDiff, not_false_eq_true, hE.2.1, cx_8n (show ¬ (67:Nat) = 68 by decide), cx_f67 hw, hT, nI_clamp (show ck_sk T n S1.1 < 2 ^ 31 by omega), nI_1, ks_eq, ks_ss]; try dsimp only [kx_wp, kx_step, kx_lI, kx_lL, kx_lA, kx_gl, kx_pI, kx_pL, kx_pR, kx_pA, kx_pV, kx_s1, kx_s2, kx_sl, kx_pre, kx_c2, kx_pl, kx_cmp, kx_oF, kx_eqN, kx_nil, kx_c1, kx_ft, kx_aI, kx_aL, kx_aR, kx_ln, Nat.reduceAdd, Option.toList, List.cons_append, List.nil_append, cf8_0, cf8_2, cf8_9, cf9_16])
                repeat' apply And.intro
                all_goals try (first | with_reducible assumption | (with_reducible refine ck_nzI ?_; simp; done) | (with_reducible refine ck_nzL ?_; simp; done) | (with_reducible refine vp_in_nI ?_ ?_ <;> first | omega | decide) | (with_reducible refine Nat.le_of_ble_eq_true ?_; rfl) | omega | exact Or.inl trivial | exact Or.inr trivial | exact Or.inl rfl | exact Or.inr rfl)
                refine hN.1 212 _ _ _ _ _ _ _ 8 _ _ _ _ _ _ _ _ _ _ lX8_212 (hU (ck_sk T n S1.1 + 1, S1.2) hg hslA hlvA _ _ _ hE2) ⟨by decide, rfl⟩ (cx_8o) rfl rfl (Nat.le_of_ble_eq_true rfl) (by omega) (by decide) (by omega) (by omega) dX8_readProduct_91 ?_
                rintro r2 P2 s2 ⟨F2, Fo2, st2, rfl, rfl, rfl, hE3, hX3⟩
                rw [hb9]
                dsimp only [Option.toList, List.cons_append, List.nil_append]
                refine hB bX8_readProduct_94 _ _ _ _ _ _ _ kX8_readProduct_94 ?_
                dsimp only [bX8_readProduct_94, kx_wp, kx_step, kx_lI, kx_lL, kx_lA, kx_gl, kx_pI, kx_pL, kx_pR, kx_pA, kx_pV, kx_s1, kx_s2, kx_sl, kx_pre, kx_c2, kx_pl, kx_cmp, kx_oF, kx_eqN, kx_nil, kx_c1, kx_ft, kx_aI, kx_aL, kx_aR, kx_ln, Nat.reduceAdd, Option.toList, List.cons_append, List.nil_append, cf8_0, cf8_2, cf8_9, cf9_16]
                repeat (simp only [cx_8w0 hw, cx_8o, cx_83 hw, cx_84 hw, hQ, hs, pk_us, pk_un, ne_eq, Nat.reduceEqDiff, not_false_eq_true, hE.2.1, cx_8n (show ¬ (67:Nat) = 68 by decide), cx_f67 hw, hT, nI_clamp (show ck_sk T n S1.1 < 2 ^ 31 by omega), nI_1, ks_eq, ks_ss]; try dsimp only [kx_wp, kx_step, kx_lI, kx_lL, kx_lA, kx_gl, kx_pI, kx_pL, kx_pR, kx_pA, kx_pV, kx_s1, kx_s2, kx_sl, kx_pre, kx_c2, kx_pl, kx_cmp, kx_oF, kx_eqN, kx_nil, kx_c1, kx_ft, kx_aI, kx_aL, kx_aR, kx_ln, Nat.reduceAdd, Option.toList, List.cons_append, List.nil_append, cf8_0, cf8_2, cf8_9, cf9_16])
                repeat' apply And.intro
                all_goals try (first | with_reducible assumption | (with_reducible refine ck_nzI ?_; simp; done) | (with_reducible refine ck_nzL ?_; simp; done) | (with_reducible refine vp_in_nI ?_ ?_ <;> first | omega | decide) | (with_reducible refine Nat.le_of_ble_eq_true ?_; rfl) | omega | exact Or.inl trivial | exact Or.inr trivial | exact Or.inl rfl | exact Or.inr rfl)
                · intro zc94
                  have ze94 := zc94
                  refine hB bX8_readProduct_115 _ _ _ _ _ _ _ kX8_readProduct_115 ?_
                  dsimp only [bX8_readProduct_115, kx_wp, kx_step, kx_lI, kx_lL, kx_lA, kx_gl, kx_pI, kx_pL, kx_pR, kx_pA, kx_pV, kx_s1, kx_s2, kx_sl, kx_pre, kx_c2, kx_pl, kx_cmp, kx_oF, kx_eqN, kx_nil, kx_c1, kx_ft, kx_aI, kx_aL, kx_aR, kx_ln, Nat.reduceAdd, Option.toList, List.cons_append, List.nil_append, cf8_0, cf8_2, cf8_9, cf9_16]
                  repeat (simp only [cx_8w0 hw, cx_8o, cx_83 hw, cx_84 hw, hQ, hs, pk_us, pk_un, ne_eq, Nat.reduceEqDiff, not_false_eq_true, hE.2.1, cx_8n (show ¬ (67:Nat) = 68 by decide), cx_f67 hw, hT, nI_clamp (show ck_sk T n S1.1 < 2 ^ 31 by omega), nI_1, ks_eq, ks_ss]; try dsimp only [kx_wp, kx_step, kx_lI, kx_lL, kx_lA, kx_gl, kx_pI, kx_pL, kx_pR, kx_pA, kx_pV, kx_s1, kx_s2, kx_sl, kx_pre, kx_c2, kx_pl, kx_cmp, kx_oF, kx_eqN, kx_nil, kx_c1, kx_ft, kx_aI, kx_aL, kx_aR, kx_ln, Nat.reduceAdd, Option.toList, List.cons_append, List.nil_append, cf8_0, cf8_2, cf8_9, cf9_16])
                  repeat' apply And.intro
                  all_goals try (first | with_reducible assumption | (with_reducible refine ck_nzI ?_; simp; done) | (with_reducible refine ck_nzL ?_; simp; done) | (with_reducible refine vp_in_nI ?_ ?_ <;> first | omega | decide) | (with_reducible refine Nat.le_of_ble_eq_true ?_; rfl) | omega | exact Or.inl trivial | exact Or.inr trivial | exact Or.inl rfl | exact Or.inr rfl)
                  refine hB bX8_readProduct_116 _ _ _ _ _ _ _ kX8_readProduct_116 ?_
                  dsimp only [bX8_readProduct_116, kx_wp, kx_step, kx_lI, kx_lL, kx_lA, kx_gl, kx_pI, kx_pL, kx_pR, kx_pA, kx_pV, kx_s1, kx_s2, kx_sl, kx_pre, kx_c2, kx_pl, kx_cmp, kx_oF, kx_eqN, kx_nil, kx_c1, kx_ft, kx_aI, kx_aL, kx_aR, kx_ln, Nat.reduceAdd, Option.toList, List.cons_append, List.nil_append, cf8_0, cf8_2, cf8_9, cf9_16]
                  repeat (simp only [cx_8w0 hw, cx_8o, cx_83 hw, cx_84 hw, hQ, hs, pk_us, pk_un, ne_eq, Nat.reduceEqDiff, not_false_eq_true, hE.2.1, cx_8n (show ¬ (67:Nat) = 68 by decide), cx_f67 hw, hT, nI_clamp (show ck_sk T n S1.1 < 2 ^ 31 by omega), nI_1, ks_eq, ks_ss]; try dsimp only [kx_wp, kx_step, kx_lI, kx_lL, kx_lA, kx_gl, kx_pI, kx_pL, kx_pR, kx_pA, kx_pV, kx_s1, kx_s2, kx_sl, kx_pre, kx_c2, kx_pl, kx_cmp, kx_oF, kx_eqN, kx_nil, kx_c1, kx_ft, kx_aI, kx_aL, kx_aR, kx_ln, Nat.reduceAdd, Option.toList, List.cons_append, List.nil_append, cf8_0, cf8_2, cf8_9, cf9_16])
                  repeat' apply And.intro
                  all_goals try (first | with_reducible assumption | (with_reducible refine ck_nzI ?_; simp; done) | (with_reducible refine ck_nzL ?_; simp; done) | (with_reducible refine vp_in_nI ?_ ?_ <;> first | omega | decide) | (with_reducible refine Nat.le_of_ble_eq_true ?_; rfl) | omega | exact Or.inl trivial | exact Or.inr trivial | exact Or.inl rfl | exact Or.inr rfl)
                  have zi := ih (U (ck_sk T n S1.1 + 1, S1.2)) F2 Fo2 st2 (i + 1) (some (.int (-6))) (fun q => absurd q hg9) hX3 (ck_sl_0 o1.1) (ck_lv_g o1 hlv1) (fun _ => by have := hnn hg; omega) (by omega) he9
                  rw [hb9] at zi
                  exact zi
                · intro zc94
                  first | exact absurd rfl zc94 | exact absurd zc94 (by decide) | exact absurd (by decide) zc94 | (exfalso; first | exact absurd ((nI_leI (a := 400) (b := i) (by omega) (by omega)).mp zc15) (by omega) | exact zc59 hTs | exact zc59 (by rw [hTs]; decide) | exact zc79 hTs | exact zc79 (by rw [hTs]; decide)) | (exfalso; simp_all; done)
            · intro zc24
              first | exact absurd rfl zc24 | exact absurd zc24 (by decide) | exact absurd (by decide) zc24 | (exfalso; first | exact absurd ((nI_leI (a := 400) (b := i) (by omega) (by omega)).mp zc15) (by omega) | exact zc59 hTs | exact zc59 (by rw [hTs]; decide) | exact zc79 hTs | exact zc79 (by rw [hTs]; decide)) | (exfalso; simp_all; done)
      · rw [cx_b1 hg]
        have hle := ck_sk_le T hsl1.1
        have hE := hE hg
        have hTf : cx_fW Q w Fo1 st1 67 = kI 0 400 T := (cx_f67 hw).trans hT
        have hlt : ck_sk T n S1.1 < n := cx_nx_lt hop (by decide)
        have hTs : T (ck_sk T n S1.1) = 47 := (if_pos hlt).symm.trans hop
        have hn42 := ct_X8_nextIs_f (l := l) (G := G) (sz := sz) (x := .ref w) hTf hE.1 hn hE.2.1 hle.2 (ch := 42) (by decide) (show ¬ ck_hcx T n S1.1 = 42 by rw [hop]; decide)
        have hn47 := ct_X8_nextIs_t (l := l) (G := G) (sz := sz) (x := .ref w) hTf hE.1 hn hE.2.1 hle.2 (ch := 47) (by decide) hop
        have hE2 : cx_E T n (ck_sk T n S1.1 + 1, S1.2) (upd F1 2 (nI (ck_sk T n (ck_sk T n S1.1 + 1)))) Fo1 st1 := ⟨hE.1, rfl, hE.2.2.1, hE.2.2.2.1, hE.2.2.2.2.1, hE.2.2.2.2.2.1, hE.2.2.2.2.2.2⟩
        have hslA : ck_sl n 0 (ck_sk T n S1.1 + 1, S1.2) := ⟨hlt, fun q => Nat.le_trans (hsl1.2 hg) (Nat.le_succ_of_le hle.1)⟩
        have hlvA : ck_lv N (ck_sk T n S1.1 + 1, S1.2) := fun q => hlv1 hg
        obtain ⟨o1, o2⟩ := ck_one_g (T := T) (w := 7) hUg hsl1 hg (show ¬ ck_hcx T n S1.1 = 0 by rw [hop]; decide)
        have hUA := hUg 1 (ck_sk T n S1.1 + 1, S1.2) ⟨hlt, fun q => by have := hsl1.2 hg; show S1.2.2.2.2.1 + 1 ≤ ck_sk T n S1.1 + 1; omega⟩
        have he9 : (if S1.2.1 = -1 ∧ (ck_hcx T n S1.1 = 42 ∨ ck_hcx T n S1.1 = 47 ∨ ck_hcx T n S1.1 = 37) then ck_lpt T n U n9 (ck_one T n U (if ck_hcx T n S1.1 = 42 then 6 else if ck_hcx T n S1.1 = 47 then 7 else 8) S1) else ck_ex T n S1) = ck_te T n U S := he9
        rw [if_pos ⟨hg, (fun z => Or.inr <| Or.inl <| z) hop⟩, if_neg (show ¬ ck_hcx T n S1.1 = 42 by rw [hop]; decide), if_pos hop] at he9
        have h99 : ck_one T n U 7 S1 = ck_emR 7 0 (U (ck_sk T n S1.1 + 1, S1.2)) := if_pos hg9
        rw [h99] at o1 o2 he9
        have hb9 := cx_b1 hg9
        have hc4 : (U (ck_sk T n S1.1 + 1, S1.2)).2.2.2.2.1 < 400 := by have := hUA.1.2 hg9; have := hUA.1.1; omega
        refine hB bX8_readProduct_7 _ _ _ _ _ _ _ kX8_readProduct_7 ?_
        dsimp only [bX8_readProduct_7, kx_wp, kx_step, kx_lI, kx_lL, kx_lA, kx_gl, kx_pI, kx_pL, kx_pR, kx_pA, kx_pV, kx_s1, kx_s2, kx_sl, kx_pre, kx_c2, kx_pl, kx_cmp, kx_oF, kx_eqN, kx_nil, kx_c1, kx_ft, kx_aI, kx_aL, kx_aR, kx_ln, Nat.reduceAdd, Option.toList, List.cons_append, List.nil_append, cf8_0, cf8_2, cf8_9, cf9_16]
        repeat (simp only [cx_8w0 hw, cx_8o, cx_83 hw, cx_84 hw, hQ, hs, pk_us, pk_un, ne_eq, Nat.reduceEqDiff, not_false_eq_true, hE.2.1, cx_8n (show ¬ (67:Nat) = 68 by decide), cx_f67 hw, hT, nI_clamp (show ck_sk T n S1.1 < 2 ^ 31 by omega), nI_1, ks_eq, ks_ss]; try dsimp only [kx_wp, kx_step, kx_lI, kx_lL, kx_lA, kx_gl, kx_pI, kx_pL, kx_pR, kx_pA, kx_pV, kx_s1, kx_s2, kx_sl, kx_pre, kx_c2, kx_pl, kx_cmp, kx_oF, kx_eqN, kx_nil, kx_c1, kx_ft, kx_aI, kx_aL, kx_aR, kx_ln, Nat.reduceAdd, Option.toList, List.cons_append, List.nil_append, cf8_0, cf8_2, cf8_9, cf9_16])
        repeat' apply And.intro
        all_goals try (first | with_reducible assumption | (with_reducible refine ck_nzI ?_; simp; done) | (with_reducible refine ck_nzL ?_; simp; done) | (with_reducible refine vp_in_nI ?_ ?_ <;> first | omega | decide) | (with_reducible refine Nat.le_of_ble_eq_true ?_; rfl) | omega | exact Or.inl trivial | exact Or.inr trivial | exact Or.inl rfl | exact Or.inr rfl)
        · intro zc8
          first | exact absurd rfl zc8 | exact absurd zc8 (by decide) | exact absurd (by decide) zc8 | (exfalso; first | exact absurd ((nI_leI (a := 400) (b := i) (by omega) (by omega)).mp zc15) (by omega) | exact zc59 hTs | exact zc59 (by rw [hTs]; decide) | exact zc79 hTs | exact zc79 (by rw [hTs]; decide)) | (exfalso; simp_all; done)
        · intro zc8
          have ze8 := zc8
          refine hB bX8_readProduct_11 _ _ _ _ _ _ _ kX8_readProduct_11 ?_
          dsimp only [bX8_readProduct_11, kx_wp, kx_step, kx_lI, kx_lL, kx_lA, kx_gl, kx_pI, kx_pL, kx_pR, kx_pA, kx_pV, kx_s1, kx_s2, kx_sl, kx_pre, kx_c2, kx_pl, kx_cmp, kx_oF, kx_eqN, kx_nil, kx_c1, kx_ft, kx_aI, kx_aL, kx_aR, kx_ln, Nat.reduceAdd, Option.toList, List.cons_append, List.nil_append, cf8_0, cf8_2, cf8_9, cf9_16]
          repeat (simp only [cx_8w0 hw, cx_8o, cx_83 hw, cx_84 hw, hQ, hs, pk_us, pk_un, ne_eq, Nat.reduceEqDiff, not_false_eq_true, hE.2.1, cx_8n (show ¬ (67:Nat) = 68 by decide), cx_f67 hw, hT, nI_clamp (show ck_sk T n S1.1 < 2 ^ 31 by omega), nI_1, ks_eq, ks_ss]; try dsimp only [kx_wp, kx_step, kx_lI, kx_lL, kx_lA, kx_gl, kx_pI, kx_pL, kx_pR, kx_pA, kx_pV, kx_s1, kx_s2, kx_sl, kx_pre, kx_c2, kx_pl, kx_cmp, kx_oF, kx_eqN, kx_nil, kx_c1, kx_ft, kx_aI, kx_aL, kx_aR, kx_ln, Nat.reduceAdd, Option.toList, List.cons_append, List.nil_append, cf8_0, cf8_2, cf8_9, cf9_16])
          repeat' apply And.intro
          all_goals try (first | with_reducible assumption | (with_reducible refine ck_nzI ?_; simp; done) | (with_reducible refine ck_nzL ?_; simp; done) | (with_reducible refine vp_in_nI ?_ ?_ <;> first | omega | decide) | (with_reducible refine Nat.le_of_ble_eq_true ?_; rfl) | omega | exact Or.inl trivial | exact Or.inr trivial | exact Or.inl rfl | exact Or.inr rfl)
          · intro zc15
            first | exact absurd rfl zc15 | exact absurd zc15 (by decide) | exact absurd (by decide) zc15 | (exfalso; first | exact absurd ((nI_leI (a := 400) (b := i) (by omega) (by omega)).mp zc15) (by omega) | exact zc59 hTs | exact zc59 (by rw [hTs]; decide) | exact zc79 hTs | exact zc79 (by rw [hTs]; decide)) | (exfalso; simp_all; done)
          · intro zc15
            with_reducible first | have ze15 := Int32.not_le.mp zc15 | have ze15 := zc15
            refine hB bX8_readProduct_18 _ _ _ _ _ _ _ kX8_readProduct_18 ?_
            dsimp only [bX8_readProduct_18, kx_wp, kx_step, kx_lI, kx_lL, kx_lA, kx_gl, kx_pI, kx_pL, kx_pR, kx_pA, kx_pV, kx_s1, kx_s2, kx_sl, kx_pre, kx_c2, kx_pl, kx_cmp, kx_oF, kx_eqN, kx_nil, kx_c1, kx_ft, kx_aI, kx_aL, kx_aR, kx_ln, Nat.reduceAdd, Option.toList, List.cons_append, List.nil_append, cf8_0, cf8_2, cf8_9, cf9_16]
            repeat (simp only [cx_8w0 hw, cx_8o, cx_83 hw, cx_84 hw, hQ, hs, pk_us, pk_un, ne_eq, Nat.reduceEqDiff, not_false_eq_true, hE.2.1, cx_8n (show ¬ (67:Nat) = 68 by decide), cx_f67 hw, hT, nI_clamp (show ck_sk T n S1.1 < 2 ^ 31 by omega), nI_1, ks_eq, ks_ss]; try dsimp only [kx_wp, kx_step, kx_lI, kx_lL, kx_lA, kx_gl, kx_pI, kx_pL, kx_pR, kx_pA, kx_pV, kx_s1, kx_s2, kx_sl, kx_pre, kx_c2, kx_pl, kx_cmp, kx_oF, kx_eqN, kx_nil, kx_c1, kx_ft, kx_aI, kx_aL, kx_aR, kx_ln, Nat.reduceAdd, Option.toList, List.cons_append, List.nil_append, cf8_0, cf8_2, cf8_9, cf9_16])
            repeat' apply And.intro
            all_goals try (first | with_reducible assumption | (with_reducible refine ck_nzI ?_; simp; done) | (with_reducible refine ck_nzL ?_; simp; done) | (with_reducible refine vp_in_nI ?_ ?_ <;> first | omega | decide) | (with_reducible refine Nat.le_of_ble_eq_true ?_; rfl) | omega | exact Or.inl trivial | exact Or.inr trivial | exact Or.inl rfl | exact Or.inr rfl)
            refine hC.1 54 _ _ _ _ _ _ _ 8 _ _ _ _ _ _ _ _ _ _ _ _ lX8_54 (hn42) ⟨by decide, rfl⟩ (cx_8o) rfl rfl (Nat.le_of_ble_eq_true rfl) (by first | decide | omega) (by decide) (by omega) (by omega) dX8_readProduct_21 ?_
            refine hB bX8_readProduct_24 _ _ _ _ _ _ _ kX8_readProduct_24 ?_
            dsimp only [bX8_readProduct_24, kx_wp, kx_step, kx_lI, kx_lL, kx_lA, kx_gl, kx_pI, kx_pL, kx_pR, kx_pA, kx_pV, kx_s1, kx_s2, kx_sl, kx_pre, kx_c2, kx_pl, kx_cmp, kx_oF, kx_eqN, kx_nil, kx_c1, kx_ft, kx_aI, kx_aL, kx_aR, kx_ln, Nat.reduceAdd, Option.toList, List.cons_append, List.nil_append, cf8_0, cf8_2, cf8_9, cf9_16]
            repeat (simp only [cx_8w0 hw, cx_8o, cx_83 hw, cx_84 hw, hQ, hs, pk_us, pk_un, ne_eq, Nat.reduceEqDiff, not_false_eq_true, hE.2.1, cx_8n (show ¬ (67:Nat) = 68 by decide), cx_f67 hw, hT, nI_clamp (show ck_sk T n S1.1 < 2 ^ 31 by omega), nI_1, ks_eq, ks_ss]; try dsimp only [kx_wp, kx_step, kx_lI, kx_lL, kx_lA, kx_gl, kx_pI, kx_pL, kx_pR, kx_pA, kx_pV, kx_s1, kx_s2, kx_sl, kx_pre, kx_c2, kx_pl, kx_cmp, kx_oF, kx_eqN, kx_nil, kx_c1, kx_ft, kx_aI, kx_aL, kx_aR, kx_ln, Nat.reduceAdd, Option.toList, List.cons_append, List.nil_append, cf8_0, cf8_2, cf8_9, cf9_16])
            repeat' apply And.intro
            all_goals try (first | with_reducible assumption | (with_reducible refine ck_nzI ?_; simp; done) | (with_reducible refine ck_nzL ?_; simp; done) | (with_reducible refine vp_in_nI ?_ ?_ <;> first | omega | decide) | (with_reducible refine Nat.le_of_ble_eq_true ?_; rfl) | omega | exact Or.inl trivial | exact Or.inr trivial | exact Or.inl rfl | exact Or.inr rfl)
            · intro zc24
              first | exact absurd rfl zc24 | exact absurd zc24 (by decide) | exact absurd (by decide) zc24 | (exfalso; first | exact absurd ((nI_leI (a := 400) (b := i) (by omega) (by omega)).mp zc15) (by omega) | exact zc59 hTs | exact zc59 (by rw [hTs]; decide) | exact zc79 hTs | exact zc79 (by rw [hTs]; decide)) | (exfalso; simp_all; done)
            · intro zc24
              with_reducible first | have ze24 := Decidable.not_not.mp zc24 | have ze24 := zc24
              refine hB bX8_readProduct_27 _ _ _ _ _ _ _ kX8_readProduct_27 ?_
              dsimp only [bX8_readProduct_27, kx_wp, kx_step, kx_lI, kx_lL, kx_lA, kx_gl, kx_pI, kx_pL, kx_pR, kx_pA, kx_pV, kx_s1, kx_s2, kx_sl, kx_pre, kx_c2, kx_pl, kx_cmp, kx_oF, kx_eqN, kx_nil, kx_c1, kx_ft, kx_aI, kx_aL, kx_aR, kx_ln, Nat.reduceAdd, Option.toList, List.cons_append, List.nil_append, cf8_0, cf8_2, cf8_9, cf9_16]
              repeat (simp only [cx_8w0 hw, cx_8o, cx_83 hw, cx_84 hw, hQ, hs, pk_us, pk_un, ne_eq, Nat.reduceEqDiff, not_false_eq_true, hE.2.1, cx_8n (show ¬ (67:Nat) = 68 by decide), cx_f67 hw, hT, nI_clamp (show ck_sk T n S1.1 < 2 ^ 31 by omega), nI_1, ks_eq, ks_ss]; try dsimp only [kx_wp, kx_step, kx_lI, kx_lL, kx_lA, kx_gl, kx_pI, kx_pL, kx_pR, kx_pA, kx_pV, kx_s1, kx_s2, kx_sl, kx_pre, kx_c2, kx_pl, kx_cmp, kx_oF, kx_eqN, kx_nil, kx_c1, kx_ft, kx_aI, kx_aL, kx_aR, kx_ln, Nat.reduceAdd, Option.toList, List.cons_append, List.nil_append, cf8_0, cf8_2, cf8_9, cf9_16])
              repeat' apply And.intro
              all_goals try (first | with_reducible assumption | (with_reducible refine ck_nzI ?_; simp; done) | (with_reducible refine ck_nzL ?_; simp; done) | (with_reducible refine vp_in_nI ?_ ?_ <;> first | omega | decide) | (with_reducible refine Nat.le_of_ble_eq_true ?_; rfl) | omega | exact Or.inl trivial | exact Or.inr trivial | exact Or.inl rfl | exact Or.inr rfl)
              refine hC.1 54 _ _ _ _ _ _ _ 8 _ _ _ _ _ _ _ _ _ _ _ _ lX8_54 (hn47) ⟨by decide, rfl⟩ (cx_8o) rfl rfl (Nat.le_of_ble_eq_true rfl) (by first | decide | omega) (by decide) (by omega) (by omega) dX8_readProduct_30 ?_
              refine hB bX8_readProduct_33 _ _ _ _ _ _ _ kX8_readProduct_33 ?_
              dsimp only [bX8_readProduct_33, kx_wp, kx_step, kx_lI, kx_lL, kx_lA, kx_gl, kx_pI, kx_pL, kx_pR, kx_pA, kx_pV, kx_s1, kx_s2, kx_sl, kx_pre, kx_c2, kx_pl, kx_cmp, kx_oF, kx_eqN, kx_nil, kx_c1, kx_ft, kx_aI, kx_aL, kx_aR, kx_ln, Nat.reduceAdd, Option.toList, List.cons_append, List.nil_append, cf8_0, cf8_2, cf8_9, cf9_16]
              repeat (simp only [cx_8w0 hw, cx_8o, cx_83 hw, cx_84 hw, hQ, hs, pk_us, pk_un, ne_eq, Nat.reduceEqDiff, not_false_eq_true, hE.2.1, cx_8n (show ¬ (67:Nat) = 68 by decide), cx_f67 hw, hT, nI_clamp (show ck_sk T n S1.1 < 2 ^ 31 by omega), nI_1, ks_eq, ks_ss]; try dsimp only [kx_wp, kx_step, kx_lI, kx_lL, kx_lA, kx_gl, kx_pI, kx_pL, kx_pR, kx_pA, kx_pV, kx_s1, kx_s2, kx_sl, kx_pre, kx_c2, kx_pl, kx_cmp, kx_oF, kx_eqN, kx_nil, kx_c1, kx_ft, kx_aI, kx_aL, kx_aR, kx_ln, Nat.reduceAdd, Option.toList, List.cons_append, List.nil_append, cf8_0, cf8_2, cf8_9, cf9_16])
              repeat' apply And.intro
              all_goals try (first | with_reducible assumption | (with_reducible refine ck_nzI ?_; simp; done) | (with_reducible refine ck_nzL ?_; simp; done) | (with_reducible refine vp_in_nI ?_ ?_ <;> first | omega | decide) | (with_reducible refine Nat.le_of_ble_eq_true ?_; rfl) | omega | exact Or.inl trivial | exact Or.inr trivial | exact Or.inl rfl | exact Or.inr rfl)
              · intro zc33
                have ze33 := zc33
                refine hB bX8_readProduct_45 _ _ _ _ _ _ _ kX8_readProduct_45 ?_
                dsimp only [bX8_readProduct_45, kx_wp, kx_step, kx_lI, kx_lL, kx_lA, kx_gl, kx_pI, kx_pL, kx_pR, kx_pA, kx_pV, kx_s1, kx_s2, kx_sl, kx_pre, kx_c2, kx_pl, kx_cmp, kx_oF, kx_eqN, kx_nil, kx_c1, kx_ft, kx_aI, kx_aL, kx_aR, kx_ln, Nat.reduceAdd, Option.toList, List.cons_append, List.nil_append, cf8_0, cf8_2, cf8_9, cf9_16]
                repeat (simp only [cx_8w0 hw, cx_8o, cx_83 hw, cx_84 hw, hQ, hs, pk_us, pk_un, ne_eq, Nat.reduceEqDiff, not_false_eq_true, hE.2.1, cx_8n (show ¬ (67:Nat) = 68 by decide), cx_f67 hw, hT, nI_clamp (show ck_sk T n S1.1 < 2 ^ 31 by omega), nI_1, ks_eq, ks_ss]; try dsimp only [kx_wp, kx_step, kx_lI, kx_lL, kx_lA, kx_gl, kx_pI, kx_pL, kx_pR, kx_pA, kx_pV, kx_s1, kx_s2, kx_sl, kx_pre, kx_c2, kx_pl, kx_cmp, kx_oF, kx_eqN, kx_nil, kx_c1, kx_ft, kx_aI, kx_aL, kx_aR, kx_ln, Nat.reduceAdd, Option.toList, List.cons_append, List.nil_append, cf8_0, cf8_2, cf8_9, cf9_16])
                repeat' apply And.intro
                all_goals try (first | with_reducible assumption | (with_reducible refine ck_nzI ?_; simp; done) | (with_reducible refine ck_nzL ?_; simp; done) | (with_reducible refine vp_in_nI ?_ ?_ <;> first | omega | decide) | (with_reducible refine Nat.le_of_ble_eq_true ?_; rfl) | omega | exact Or.inl trivial | exact Or.inr trivial | exact Or.inl rfl | exact Or.inr rfl)
                · intro zc59
                  have ze59 := zc59
                  refine hB bX8_readProduct_68 _ _ _ _ _ _ _ kX8_readProduct_68 ?_
                  dsimp only [bX8_readProduct_68, kx_wp, kx_step, kx_lI, kx_lL, kx_lA, kx_gl, kx_pI, kx_pL, kx_pR, kx_pA, kx_pV, kx_s1, kx_s2, kx_sl, kx_pre, kx_c2, kx_pl, kx_cmp, kx_oF, kx_eqN, kx_nil, kx_c1, kx_ft, kx_aI, kx_aL, kx_aR, kx_ln, Nat.reduceAdd, Option.toList, List.cons_append, List.nil_append, cf8_0, cf8_2, cf8_9, cf9_16]
                  repeat (simp only [cx_8w0 hw, cx_8o, cx_83 hw, cx_84 hw, hQ, hs, pk_us, pk_un, ne_eq, Nat.reduceEqDiff, not_false_eq_true, hE.2.1, cx_8n (show ¬ (67:Nat) = 68 by decide), cx_f67 hw, hT, nI_clamp (show ck_sk T n S1.1 < 2 ^ 31 by omega), nI_1, ks_eq, ks_ss]; try dsimp only [kx_wp, kx_step, kx_lI, kx_lL, kx_lA, kx_gl, kx_pI, kx_pL, kx_pR, kx_pA, kx_pV, kx_s1, kx_s2, kx_sl, kx_pre, kx_c2, kx_pl, kx_cmp, kx_oF, kx_eqN, kx_nil, kx_c1, kx_ft, kx_aI, kx_aL, kx_aR, kx_ln, Nat.reduceAdd, Option.toList, List.cons_append, List.nil_append, cf8_0, cf8_2, cf8_9, cf9_16])
                  repeat' apply And.intro
                  all_goals try (first | with_reducible assumption | (with_reducible refine ck_nzI ?_; simp; done) | (with_reducible refine ck_nzL ?_; simp; done) | (with_reducible refine vp_in_nI ?_ ?_ <;> first | omega | decide) | (with_reducible refine Nat.le_of_ble_eq_true ?_; rfl) | omega | exact Or.inl trivial | exact Or.inr trivial | exact Or.inl rfl | exact Or.inr rfl)
                  · intro zc79
                    first | exact absurd rfl zc79 | exact absurd zc79 (by decide) | exact absurd (by decide) zc79 | (exfalso; first | exact absurd ((nI_leI (a := 400) (b := i) (by omega) (by omega)).mp zc15) (by omega) | exact zc59 hTs | exact zc59 (by rw [hTs]; decide) | exact zc79 hTs | exact zc79 (by rw [hTs]; decide)) | (exfalso; simp_all; done)
                  · intro zc79
                    with_reducible first | have ze79 := Decidable.not_not.mp zc79 | have ze79 := zc79
                    refine hB bX8_readProduct_82 _ _ _ _ _ _ _ kX8_readProduct_82 ?_
                    dsimp only [bX8_readProduct_82, kx_wp, kx_step, kx_lI, kx_lL, kx_lA, kx_gl, kx_pI, kx_pL, kx_pR, kx_pA, kx_pV, kx_s1, kx_s2, kx_sl, kx_pre, kx_c2, kx_pl, kx_cmp, kx_oF, kx_eqN, kx_nil, kx_c1, kx_ft, kx_aI, kx_aL, kx_aR, kx_ln, Nat.reduceAdd, Option.toList, List.cons_append, List.nil_append, cf8_0, cf8_2, cf8_9, cf9_16]
                    repeat (simp only [cx_8w0 hw, cx_8o, cx_83 hw, cx_84 hw, hQ, hs, pk_us, pk_un, ne_eq, Nat.reduceEqDiff, not_false_eq_true, hE.2.1, cx_8n (show ¬ (67:Nat) = 68 by decide), cx_f67 hw, hT, nI_clamp (show ck_sk T n S1.1 < 2 ^ 31 by omega), nI_1, ks_eq, ks_ss]; try dsimp only [kx_wp, kx_step, kx_lI, kx_lL, kx_lA, kx_gl, kx_pI, kx_pL, kx_pR, kx_pA, kx_pV, kx_s1, kx_s2, kx_sl, kx_pre, kx_c2, kx_pl, kx_cmp, kx_oF, kx_eqN, kx_nil, kx_c1, kx_ft, kx_aI, kx_aL, kx_aR, kx_ln, Nat.reduceAdd, Option.toList, List.cons_append, List.nil_append, cf8_0, cf8_2, cf8_9, cf9_16])
                    repeat' apply And.intro
                    all_goals try (first | with_reducible assumption | (with_reducible refine ck_nzI ?_; simp; done) | (with_reducible refine ck_nzL ?_; simp; done) | (with_reducible refine vp_in_nI ?_ ?_ <;> first | omega | decide) | (with_reducible refine Nat.le_of_ble_eq_true ?_; rfl) | omega | exact Or.inl trivial | exact Or.inr trivial | exact Or.inl rfl | exact Or.inr rfl)
                    refine hB bX8_readProduct_85 _ _ _ _ _ _ _ kX8_readProduct_85 ?_
                    dsimp only [bX8_readProduct_85, kx_wp, kx_step, kx_lI, kx_lL, kx_lA, kx_gl, kx_pI, kx_pL, kx_pR, kx_pA, kx_pV, kx_s1, kx_s2, kx_sl, kx_pre, kx_c2, kx_pl, kx_cmp, kx_oF, kx_eqN, kx_nil, kx_c1, kx_ft, kx_aI, kx_aL, kx_aR, kx_ln, Nat.reduceAdd, Option.toList, List.cons_append, List.nil_append, cf8_0, cf8_2, cf8_9, cf9_16]
                    repeat (simp only [cx_8w0 hw, cx_8o, cx_83 hw, cx_84 hw, hQ, hs, pk_us, pk_un, ne_eq, Nat.reduceEqDiff, not_false_eq_true, hE.2.1, cx_8n (show ¬ (67:Nat) = 68 by decide), cx_f67 hw, hT, nI_clamp (show ck_sk T n S1.1 < 2 ^ 31 by omega), nI_1, ks_eq, ks_ss]; try dsimp only [kx_wp, kx_step, kx_lI, kx_lL, kx_lA, kx_gl, kx_pI, kx_pL, kx_pR, kx_pA, kx_pV, kx_s1, kx_s2, kx_sl, kx_pre, kx_c2, kx_pl, kx_cmp, kx_oF, kx_eqN, kx_nil, kx_c1, kx_ft, kx_aI, kx_aL, kx_aR, kx_ln, Nat.reduceAdd, Option.toList, List.cons_append, List.nil_append, cf8_0, cf8_2, cf8_9, cf9_16])
                    repeat' apply And.intro
                    all_goals try (first | with_reducible assumption | (with_reducible refine ck_nzI ?_; simp; done) | (with_reducible refine ck_nzL ?_; simp; done) | (with_reducible refine vp_in_nI ?_ ?_ <;> first | omega | decide) | (with_reducible refine Nat.le_of_ble_eq_true ?_; rfl) | omega | exact Or.inl trivial | exact Or.inr trivial | exact Or.inl rfl | exact Or.inr rfl)
                    refine hC.1 46 _ _ _ _ _ _ _ 8 _ _ _ _ _ _ _ _ _ _ _ _ lX8_46 (ct_X8_skip1 l G (x := .ref w) hTf hE.1 hn hE.2.1 hlt) ⟨by decide, rfl⟩ (cx_8o) rfl rfl (Nat.le_of_ble_eq_true rfl) (by first | decide | omega) (by decide) (by omega) (by omega) dX8_readProduct_87 ?_
                    dsimp only [Option.toList, List.cons_append, List.nil_append]
                    refine hB bX8_readProduct_90 _ _ _ _ _ _ _ kX8_readProduct_90 ?_
                    dsimp only [bX8_readProduct_90, kx_wp, kx_step, kx_lI, kx_lL, kx_lA, kx_gl, kx_pI, kx_pL, kx_pR, kx_pA, kx_pV, kx_s1, kx_s2, kx_sl, kx_pre, kx_c2, kx_pl, kx_cmp, kx_oF, kx_eqN, kx_nil, kx_c1, kx_ft, kx_aI, kx_aL, kx_aR, kx_ln, Nat.reduceAdd, Option.toList, List.cons_append, List.nil_append, cf8_0, cf8_2, cf8_9, cf9_16]
                    repeat (simp only [cx_8w0 hw, cx_8o, cx_83 hw, cx_84 hw, hQ, hs, pk_us, pk_un, ne_eq, Nat.reduceEqDiff, not_false_eq_true, hE.2.1, cx_8n (show ¬ (67:Nat) = 68 by decide), cx_f67 hw, hT, nI_clamp (show ck_sk T n S1.1 < 2 ^ 31 by omega), nI_1, ks_eq, ks_ss]; try dsimp only [kx_wp, kx_step, kx_lI, kx_lL, kx_lA, kx_gl, kx_pI, kx_pL, kx_pR, kx_pA, kx_pV, kx_s1, kx_s2, kx_sl, kx_pre, kx_c2, kx_pl, kx_cmp, kx_oF, kx_eqN, kx_nil, kx_c1, kx_ft, kx_aI, kx_aL, kx_aR, kx_ln, Nat.reduceAdd, Option.toList, List.cons_append, List.nil_append, cf8_0, cf8_2, cf8_9, cf9_16])
                    repeat' apply And.intro
                    all_goals try (first | with_reducible assumption | (with_reducible refine ck_nzI ?_; simp; done) | (with_reducible refine ck_nzL ?_; simp; done) | (with_reducible refine vp_in_nI ?_ ?_ <;> first | omega | decide) | (with_reducible refine Nat.le_of_ble_eq_true ?_; rfl) | omega | exact Or.inl trivial | exact Or.inr trivial | exact Or.inl rfl | exact Or.inr rfl)
                    refine hN.1 212 _ _ _ _ _ _ _ 8 _ _ _ _ _ _ _ _ _ _ lX8_212 (hU (ck_sk T n S1.1 + 1, S1.2) hg hslA hlvA _ _ _ hE2) ⟨by decide, rfl⟩ (cx_8o) rfl rfl (Nat.le_of_ble_eq_true rfl) (by omega) (by decide) (by omega) (by omega) dX8_readProduct_91 ?_
                    rintro r2 P2 s2 ⟨F2, Fo2, st2, rfl, rfl, rfl, hE3, hX3⟩
                    rw [hb9]
                    dsimp only [Option.toList, List.cons_append, List.nil_append]
                    refine hB bX8_readProduct_94 _ _ _ _ _ _ _ kX8_readProduct_94 ?_
                    dsimp only [bX8_readProduct_94, kx_wp, kx_step, kx_lI, kx_lL, kx_lA, kx_gl, kx_pI, kx_pL, kx_pR, kx_pA, kx_pV, kx_s1, kx_s2, kx_sl, kx_pre, kx_c2, kx_pl, kx_cmp, kx_oF, kx_eqN, kx_nil, kx_c1, kx_ft, kx_aI, kx_aL, kx_aR, kx_ln, Nat.reduceAdd, Option.toList, List.cons_append, List.nil_append, cf8_0, cf8_2, cf8_9, cf9_16]
                    repeat (simp only [cx_8w0 hw, cx_8o, cx_83 hw, cx_84 hw, hQ, hs, pk_us, pk_un, ne_eq, Nat.reduceEqDiff, not_false_eq_true, hE.2.1, cx_8n (show ¬ (67:Nat) = 68 by decide), cx_f67 hw, hT, nI_clamp (show ck_sk T n S1.1 < 2 ^ 31 by omega), nI_1, ks_eq, ks_ss]; try dsimp only [kx_wp, kx_step, kx_lI, kx_lL, kx_lA, kx_gl, kx_pI, kx_pL, kx_pR, kx_pA, kx_pV, kx_s1, kx_s2, kx_sl, kx_pre, kx_c2, kx_pl, kx_cmp, kx_oF, kx_eqN, kx_nil, kx_c1, kx_ft, kx_aI, kx_aL, kx_aR, kx_ln, Nat.reduceAdd, Option.toList, List.cons_append, List.nil_append, cf8_0, cf8_2, cf8_9, cf9_16])
                    repeat' apply And.intro
                    all_goals try (first | with_reducible assumption | (with_reducible refine ck_nzI ?_; simp; done) | (with_reducible refine ck_nzL ?_; simp; done) | (with_reducible refine vp_in_nI ?_ ?_ <;> first | omega | decide) | (with_reducible refine Nat.le_of_ble_eq_true ?_; rfl) | omega | exact Or.inl trivial | exact Or.inr trivial | exact Or.inl rfl | exact Or.inr rfl)
                    · intro zc94
                      first | exact absurd rfl zc94 | exact absurd zc94 (by decide) | exact absurd (by decide) zc94 | (exfalso; first | exact absurd ((nI_leI (a := 400) (b := i) (by omega) (by omega)).mp zc15) (by omega) | exact zc59 hTs | exact zc59 (by rw [hTs]; decide) | exact zc79 hTs | exact zc79 (by rw [hTs]; decide)) | (exfalso; simp_all; done)
                    · intro zc94
                      have ze94 := zc94
                      refine hB bX8_readProduct_97 _ _ _ _ _ _ _ kX8_readProduct_97 ?_
                      dsimp only [bX8_readProduct_97, kx_wp, kx_step, kx_lI, kx_lL, kx_lA, kx_gl, kx_pI, kx_pL, kx_pR, kx_pA, kx_pV, kx_s1, kx_s2, kx_sl, kx_pre, kx_c2, kx_pl, kx_cmp, kx_oF, kx_eqN, kx_nil, kx_c1, kx_ft, kx_aI, kx_aL, kx_aR, kx_ln, Nat.reduceAdd, Option.toList, List.cons_append, List.nil_append, cf8_0, cf8_2, cf8_9, cf9_16]
                      repeat (simp only [cx_8w0 hw, cx_8o, cx_83 hw, cx_84 hw, hQ, hs, pk_us, pk_un, ne_eq, Nat.reduceEqDiff, not_false_eq_true, hE.2.1, cx_8n (show ¬ (67:Nat) = 68 by decide), cx_f67 hw, hT, nI_clamp (show ck_sk T n S1.1 < 2 ^ 31 by omega), nI_1, ks_eq, ks_ss]; try dsimp only [kx_wp, kx_step, kx_lI, kx_lL, kx_lA, kx_gl, kx_pI, kx_pL, kx_pR, kx_pA, kx_pV, kx_s1, kx_s2, kx_sl, kx_pre, kx_c2, kx_pl, kx_cmp, kx_oF, kx_eqN, kx_nil, kx_c1, kx_ft, kx_aI, kx_aL, kx_aR, kx_ln, Nat.reduceAdd, Option.toList, List.cons_append, List.nil_append, cf8_0, cf8_2, cf8_9, cf9_16])
                      repeat' apply And.intro
                      all_goals try (first | with_reducible assumption | (with_reducible refine ck_nzI ?_; simp; done) | (with_reducible refine ck_nzL ?_; simp; done) | (with_reducible refine vp_in_nI ?_ ?_ <;> first | omega | decide) | (with_reducible refine Nat.le_of_ble_eq_true ?_; rfl) | omega | exact Or.inl trivial | exact Or.inr trivial | exact Or.inl rfl | exact Or.inr rfl)
                      refine hC.1 209 _ _ _ _ _ _ _ 2 _ _ _ _ _ _ _ _ _ _ _ _ lX8_209 (ct_X2_add l G (P := Q) hw (hE3 hg9).2.2.2.2.2.1 hc4) ⟨by decide, rfl⟩ (cx_83 hw) rfl rfl (Nat.le_of_ble_eq_true rfl) (by first | decide | omega) (by decide) (by omega) (by omega) dX8_readProduct_105 ?_
                      refine hB bX8_readProduct_108 _ _ _ _ _ _ _ kX8_readProduct_108 ?_
                      dsimp only [bX8_readProduct_108, kx_wp, kx_step, kx_lI, kx_lL, kx_lA, kx_gl, kx_pI, kx_pL, kx_pR, kx_pA, kx_pV, kx_s1, kx_s2, kx_sl, kx_pre, kx_c2, kx_pl, kx_cmp, kx_oF, kx_eqN, kx_nil, kx_c1, kx_ft, kx_aI, kx_aL, kx_aR, kx_ln, Nat.reduceAdd, Option.toList, List.cons_append, List.nil_append, cf8_0, cf8_2, cf8_9, cf9_16]
                      repeat (simp only [cx_8w0 hw, cx_8o, cx_83 hw, cx_84 hw, hQ, hs, pk_us, pk_un, ne_eq, Nat.reduceEqDiff, not_false_eq_true, hE.2.1, cx_8n (show ¬ (67:Nat) = 68 by decide), cx_f67 hw, hT, nI_clamp (show ck_sk T n S1.1 < 2 ^ 31 by omega), nI_1, ks_eq, ks_ss]; try dsimp only [kx_wp, kx_step, kx_lI, kx_lL, kx_lA, kx_gl, kx_pI, kx_pL, kx_pR, kx_pA, kx_pV, kx_s1, kx_s2, kx_sl, kx_pre, kx_c2, kx_pl, kx_cmp, kx_oF, kx_eqN, kx_nil, kx_c1, kx_ft, kx_aI, kx_aL, kx_aR, kx_ln, Nat.reduceAdd, Option.toList, List.cons_append, List.nil_append, cf8_0, cf8_2, cf8_9, cf9_16])
                      repeat' apply And.intro
                      all_goals try (first | with_reducible assumption | (with_reducible refine ck_nzI ?_; simp; done) | (with_reducible refine ck_nzL ?_; simp; done) | (with_reducible refine vp_in_nI ?_ ?_ <;> first | omega | decide) | (with_reducible refine Nat.le_of_ble_eq_true ?_; rfl) | omega | exact Or.inl trivial | exact Or.inr trivial | exact Or.inl rfl | exact Or.inr rfl)
                      · intro zc108
                        first | exact absurd rfl zc108 | exact absurd zc108 (by decide) | exact absurd (by decide) zc108 | (exfalso; first | exact absurd ((nI_leI (a := 400) (b := i) (by omega) (by omega)).mp zc15) (by omega) | exact zc59 hTs | exact zc59 (by rw [hTs]; decide) | exact zc79 hTs | exact zc79 (by rw [hTs]; decide)) | (exfalso; simp_all; done)
                      · intro zc108
                        have ze108 := zc108
                        refine hB bX8_readProduct_111 _ _ _ _ _ _ _ kX8_readProduct_111 ?_
                        dsimp only [bX8_readProduct_111, kx_wp, kx_step, kx_lI, kx_lL, kx_lA, kx_gl, kx_pI, kx_pL, kx_pR, kx_pA, kx_pV, kx_s1, kx_s2, kx_sl, kx_pre, kx_c2, kx_pl, kx_cmp, kx_oF, kx_eqN, kx_nil, kx_c1, kx_ft, kx_aI, kx_aL, kx_aR, kx_ln, Nat.reduceAdd, Option.toList, List.cons_append, List.nil_append, cf8_0, cf8_2, cf8_9, cf9_16]
                        repeat (simp only [cx_8w0 hw, cx_8o, cx_83 hw, cx_84 hw, hQ, hs, pk_us, pk_un, ne_eq, Nat.reduceEqDiff, not_false_eq_true, hE.2.1, cx_8n (show ¬ (67:Nat) = 68 by decide), cx_f67 hw, hT, nI_clamp (show ck_sk T n S1.1 < 2 ^ 31 by omega), nI_1, ks_eq, ks_ss]; try dsimp only [kx_wp, kx_step, kx_lI, kx_lL, kx_lA, kx_gl, kx_pI, kx_pL, kx_pR, kx_pA, kx_pV, kx_s1, kx_s2, kx_sl, kx_pre, kx_c2, kx_pl, kx_cmp, kx_oF, kx_eqN, kx_nil, kx_c1, kx_ft, kx_aI, kx_aL, kx_aR, kx_ln, Nat.reduceAdd, Option.toList, List.cons_append, List.nil_append, cf8_0, cf8_2, cf8_9, cf9_16])
                        repeat' apply And.intro
                        all_goals try (first | with_reducible assumption | (with_reducible refine ck_nzI ?_; simp; done) | (with_reducible refine ck_nzL ?_; simp; done) | (with_reducible refine vp_in_nI ?_ ?_ <;> first | omega | decide) | (with_reducible refine Nat.le_of_ble_eq_true ?_; rfl) | omega | exact Or.inl trivial | exact Or.inr trivial | exact Or.inl rfl | exact Or.inr rfl)
                        refine hB bX8_readProduct_116 _ _ _ _ _ _ _ kX8_readProduct_116 ?_
                        dsimp only [bX8_readProduct_116, kx_wp, kx_step, kx_lI, kx_lL, kx_lA, kx_gl, kx_pI, kx_pL, kx_pR, kx_pA, kx_pV, kx_s1, kx_s2, kx_sl, kx_pre, kx_c2, kx_pl, kx_cmp, kx_oF, kx_eqN, kx_nil, kx_c1, kx_ft, kx_aI, kx_aL, kx_aR, kx_ln, Nat.reduceAdd, Option.toList, List.cons_append, List.nil_append, cf8_0, cf8_2, cf8_9, cf9_16]
                        repeat (simp only [cx_8w0 hw, cx_8o, cx_83 hw, cx_84 hw, hQ, hs, pk_us, pk_un, ne_eq, Nat.reduceEqDiff, not_false_eq_true, hE.2.1, cx_8n (show ¬ (67:Nat) = 68 by decide), cx_f67 hw, hT, nI_clamp (show ck_sk T n S1.1 < 2 ^ 31 by omega), nI_1, ks_eq, ks_ss]; try dsimp only [kx_wp, kx_step, kx_lI, kx_lL, kx_lA, kx_gl, kx_pI, kx_pL, kx_pR, kx_pA, kx_pV, kx_s1, kx_s2, kx_sl, kx_pre, kx_c2, kx_pl, kx_cmp, kx_oF, kx_eqN, kx_nil, kx_c1, kx_ft, kx_aI, kx_aL, kx_aR, kx_ln, Nat.reduceAdd, Option.toList, List.cons_append, List.nil_append, cf8_0, cf8_2, cf8_9, cf9_16])
                        repeat' apply And.intro
                        all_goals try (first | with_reducible assumption | (with_reducible refine ck_nzI ?_; simp; done) | (with_reducible refine ck_nzL ?_; simp; done) | (with_reducible refine vp_in_nI ?_ ?_ <;> first | omega | decide) | (with_reducible refine Nat.le_of_ble_eq_true ?_; rfl) | omega | exact Or.inl trivial | exact Or.inr trivial | exact Or.inl rfl | exact Or.inr rfl)
                        have zi := ih (ck_emR 7 0 (U (ck_sk T n S1.1 + 1, S1.2))) F2 _ _ (i + 1) (some (.int (-7))) (fun _ => (hE3 hg9).em (Or.inr ⟨7, by decide, by decide, rfl, rfl⟩)) (fun q => absurd hg9 q) (ck_sl_0 o1.1) (ck_lv_g o1 hlv1) (fun _ => by have := hnn hg; omega) (by omega) he9
                        rw [cx_b1 (show (ck_emR 7 0 (U (ck_sk T n S1.1 + 1, S1.2))).2.1 = -1 from hg9)] at zi
                        exact zi
                · intro zc59
                  first | exact absurd rfl zc59 | exact absurd zc59 (by decide) | exact absurd (by decide) zc59 | (exfalso; first | exact absurd ((nI_leI (a := 400) (b := i) (by omega) (by omega)).mp zc15) (by omega) | exact zc59 hTs | exact zc59 (by rw [hTs]; decide) | exact zc79 hTs | exact zc79 (by rw [hTs]; decide)) | (exfalso; simp_all; done)
              · intro zc33
                first | exact absurd rfl zc33 | exact absurd zc33 (by decide) | exact absurd (by decide) zc33 | (exfalso; first | exact absurd ((nI_leI (a := 400) (b := i) (by omega) (by omega)).mp zc15) (by omega) | exact zc59 hTs | exact zc59 (by rw [hTs]; decide) | exact zc79 hTs | exact zc79 (by rw [hTs]; decide)) | (exfalso; simp_all; done)
      · rw [cx_b1 hg]
        have hle := ck_sk_le T hsl1.1
        have hE := hE hg
        have hTf : cx_fW Q w Fo1 st1 67 = kI 0 400 T := (cx_f67 hw).trans hT
        have hlt : ck_sk T n S1.1 < n := cx_nx_lt hop (by decide)
        have hTs : T (ck_sk T n S1.1) = 47 := (if_pos hlt).symm.trans hop
        have hn42 := ct_X8_nextIs_f (l := l) (G := G) (sz := sz) (x := .ref w) hTf hE.1 hn hE.2.1 hle.2 (ch := 42) (by decide) (show ¬ ck_hcx T n S1.1 = 42 by rw [hop]; decide)
        have hn47 := ct_X8_nextIs_t (l := l) (G := G) (sz := sz) (x := .ref w) hTf hE.1 hn hE.2.1 hle.2 (ch := 47) (by decide) hop
        have hE2 : cx_E T n (ck_sk T n S1.1 + 1, S1.2) (upd F1 2 (nI (ck_sk T n (ck_sk T n S1.1 + 1)))) Fo1 st1 := ⟨hE.1, rfl, hE.2.2.1, hE.2.2.2.1, hE.2.2.2.2.1, hE.2.2.2.2.2.1, hE.2.2.2.2.2.2⟩
        have hslA : ck_sl n 0 (ck_sk T n S1.1 + 1, S1.2) := ⟨hlt, fun q => Nat.le_trans (hsl1.2 hg) (Nat.le_succ_of_le hle.1)⟩
        have hlvA : ck_lv N (ck_sk T n S1.1 + 1, S1.2) := fun q => hlv1 hg
        obtain ⟨o1, o2⟩ := ck_one_g (T := T) (w := 7) hUg hsl1 hg (show ¬ ck_hcx T n S1.1 = 0 by rw [hop]; decide)
        have hUA := hUg 1 (ck_sk T n S1.1 + 1, S1.2) ⟨hlt, fun q => by have := hsl1.2 hg; show S1.2.2.2.2.1 + 1 ≤ ck_sk T n S1.1 + 1; omega⟩
        have he9 : (if S1.2.1 = -1 ∧ (ck_hcx T n S1.1 = 42 ∨ ck_hcx T n S1.1 = 47 ∨ ck_hcx T n S1.1 = 37) then ck_lpt T n U n9 (ck_one T n U (if ck_hcx T n S1.1 = 42 then 6 else if ck_hcx T n S1.1 = 47 then 7 else 8) S1) else ck_ex T n S1) = ck_te T n U S := he9
        rw [if_pos ⟨hg, (fun z => Or.inr <| Or.inl <| z) hop⟩, if_neg (show ¬ ck_hcx T n S1.1 = 42 by rw [hop]; decide), if_pos hop] at he9
        have h99 : ck_one T n U 7 S1 = U (ck_sk T n S1.1 + 1, S1.2) := if_neg hg9
        rw [h99] at o1 o2 he9
        have hb9 := cx_b0 hg9
        refine hB bX8_readProduct_7 _ _ _ _ _ _ _ kX8_readProduct_7 ?_
        dsimp only [bX8_readProduct_7, kx_wp, kx_step, kx_lI, kx_lL, kx_lA, kx_gl, kx_pI, kx_pL, kx_pR, kx_pA, kx_pV, kx_s1, kx_s2, kx_sl, kx_pre, kx_c2, kx_pl, kx_cmp, kx_oF, kx_eqN, kx_nil, kx_c1, kx_ft, kx_aI, kx_aL, kx_aR, kx_ln, Nat.reduceAdd, Option.toList, List.cons_append, List.nil_append, cf8_0, cf8_2, cf8_9, cf9_16]
        repeat (simp only [cx_8w0 hw, cx_8o, cx_83 hw, cx_84 hw, hQ, hs, pk_us, pk_un, ne_eq, Nat.reduceEqDiff, not_false_eq_true, hE.2.1, cx_8n (show ¬ (67:Nat) = 68 by decide), cx_f67 hw, hT, nI_clamp (show ck_sk T n S1.1 < 2 ^ 31 by omega), nI_1, ks_eq, ks_ss]; try dsimp only [kx_wp, kx_step, kx_lI, kx_lL, kx_lA, kx_gl, kx_pI, kx_pL, kx_pR, kx_pA, kx_pV, kx_s1, kx_s2, kx_sl, kx_pre, kx_c2, kx_pl, kx_cmp, kx_oF, kx_eqN, kx_nil, kx_c1, kx_ft, kx_aI, kx_aL, kx_aR, kx_ln, Nat.reduceAdd, Option.toList, List.cons_append, List.nil_append, cf8_0, cf8_2, cf8_9, cf9_16])
        repeat' apply And.intro
        all_goals try (first | with_reducible assumption | (with_reducible refine ck_nzI ?_; simp; done) | (with_reducible refine ck_nzL ?_; simp; done) | (with_reducible refine vp_in_nI ?_ ?_ <;> first | omega | decide) | (with_reducible refine Nat.le_of_ble_eq_true ?_; rfl) | omega | exact Or.inl trivial | exact Or.inr trivial | exact Or.inl rfl | exact Or.inr rfl)
        · intro zc8
          first | exact absurd rfl zc8 | exact absurd zc8 (by decide) | exact absurd (by decide) zc8 | (exfalso; first | exact absurd ((nI_leI (a := 400) (b := i) (by omega) (by omega)).mp zc15) (by omega) | exact zc59 hTs | exact zc59 (by rw [hTs]; decide) | exact zc79 hTs | exact zc79 (by rw [hTs]; decide)) | (exfalso; simp_all; done)
        · intro zc8
          have ze8 := zc8
          refine hB bX8_readProduct_11 _ _ _ _ _ _ _ kX8_readProduct_11 ?_
          dsimp only [bX8_readProduct_11, kx_wp, kx_step, kx_lI, kx_lL, kx_lA, kx_gl, kx_pI, kx_pL, kx_pR, kx_pA, kx_pV, kx_s1, kx_s2, kx_sl, kx_pre, kx_c2, kx_pl, kx_cmp, kx_oF, kx_eqN, kx_nil, kx_c1, kx_ft, kx_aI, kx_aL, kx_aR, kx_ln, Nat.reduceAdd, Option.toList, List.cons_append, List.nil_append, cf8_0, cf8_2, cf8_9, cf9_16]
          repeat (simp only [cx_8w0 hw, cx_8o, cx_83 hw, cx_84 hw, hQ, hs, pk_us, pk_un, ne_eq, Nat.reduceEqDiff, not_false_eq_true, hE.2.1, cx_8n (show ¬ (67:Nat) = 68 by decide), cx_f67 hw, hT, nI_clamp (show ck_sk T n S1.1 < 2 ^ 31 by omega), nI_1, ks_eq, ks_ss]; try dsimp only [kx_wp, kx_step, kx_lI, kx_lL, kx_lA, kx_gl, kx_pI, kx_pL, kx_pR, kx_pA, kx_pV, kx_s1, kx_s2, kx_sl, kx_pre, kx_c2, kx_pl, kx_cmp, kx_oF, kx_eqN, kx_nil, kx_c1, kx_ft, kx_aI, kx_aL, kx_aR, kx_ln, Nat.reduceAdd, Option.toList, List.cons_append, List.nil_append, cf8_0, cf8_2, cf8_9, cf9_16])
          repeat' apply And.intro
          all_goals try (first | with_reducible assumption | (with_reducible refine ck_nzI ?_; simp; done) | (with_reducible refine ck_nzL ?_; simp; done) | (with_reducible refine vp_in_nI ?_ ?_ <;> first | omega | decide) | (with_reducible refine Nat.le_of_ble_eq_true ?_; rfl) | omega | exact Or.inl trivial | exact Or.inr trivial | exact Or.inl rfl | exact Or.inr rfl)
          · intro zc15
            first | exact absurd rfl zc15 | exact absurd zc15 (by decide) | exact absurd (by decide) zc15 | (exfalso; first | exact absurd ((nI_leI (a := 400) (b := i) (by omega) (by omega)).mp zc15) (by omega) | exact zc59 hTs | exact zc59 (by rw [hTs]; decide) | exact zc79 hTs | exact zc79 (by rw [hTs]; decide)) | (exfalso; simp_all; done)
          · intro zc15
            with_reducible first | have ze15 := Int32.not_le.mp zc15 | have ze15 := zc15
            refine hB bX8_readProduct_18 _ _ _ _ _ _ _ kX8_readProduct_18 ?_
            dsimp only [bX8_readProduct_18, kx_wp, kx_step, kx_lI, kx_lL, kx_lA, kx_gl, kx_pI, kx_pL, kx_pR, kx_pA, kx_pV, kx_s1, kx_s2, kx_sl, kx_pre, kx_c2, kx_pl, kx_cmp, kx_oF, kx_eqN, kx_nil, kx_c1, kx_ft, kx_aI, kx_aL, kx_aR, kx_ln, Nat.reduceAdd, Option.toList, List.cons_append, List.nil_append, cf8_0, cf8_2, cf8_9, cf9_16]
            repeat (simp only [cx_8w0 hw, cx_8o, cx_83 hw, cx_84 hw, hQ, hs, pk_us, pk_un, ne_eq, Nat.reduceEqDiff, not_false_eq_true, hE.2.1, cx_8n (show ¬ (67:Nat) = 68 by decide), cx_f67 hw, hT, nI_clamp (show ck_sk T n S1.1 < 2 ^ 31 by omega), nI_1, ks_eq, ks_ss]; try dsimp only [kx_wp, kx_step, kx_lI, kx_lL, kx_lA, kx_gl, kx_pI, kx_pL, kx_pR, kx_pA, kx_pV, kx_s1, kx_s2, kx_sl, kx_pre, kx_c2, kx_pl, kx_cmp, kx_oF, kx_eqN, kx_nil, kx_c1, kx_ft, kx_aI, kx_aL, kx_aR, kx_ln, Nat.reduceAdd, Option.toList, List.cons_append, List.nil_append, cf8_0, cf8_2, cf8_9, cf9_16])
            repeat' apply And.intro
            all_goals try (first | with_reducible assumption | (with_reducible refine ck_nzI ?_; simp; done) | (with_reducible refine ck_nzL ?_; simp; done) | (with_reducible refine vp_in_nI ?_ ?_ <;> first | omega | decide) | (with_reducible refine Nat.le_of_ble_eq_true ?_; rfl) | omega | exact Or.inl trivial | exact Or.inr trivial | exact Or.inl rfl | exact Or.inr rfl)
            refine hC.1 54 _ _ _ _ _ _ _ 8 _ _ _ _ _ _ _ _ _ _ _ _ lX8_54 (hn42) ⟨by decide, rfl⟩ (cx_8o) rfl rfl (Nat.le_of_ble_eq_true rfl) (by first | decide | omega) (by decide) (by omega) (by omega) dX8_readProduct_21 ?_
            refine hB bX8_readProduct_24 _ _ _ _ _ _ _ kX8_readProduct_24 ?_
            dsimp only [bX8_readProduct_24, kx_wp, kx_step, kx_lI, kx_lL, kx_lA, kx_gl, kx_pI, kx_pL, kx_pR, kx_pA, kx_pV, kx_s1, kx_s2, kx_sl, kx_pre, kx_c2, kx_pl, kx_cmp, kx_oF, kx_eqN, kx_nil, kx_c1, kx_ft, kx_aI, kx_aL, kx_aR, kx_ln, Nat.reduceAdd, Option.toList, List.cons_append, List.nil_append, cf8_0, cf8_2, cf8_9, cf9_16]
            repeat (simp only [cx_8w0 hw, cx_8o, cx_83 hw, cx_84 hw, hQ, hs, pk_us, pk_un, ne_eq, Nat.reduceEqDiff, not_false_eq_true, hE.2.1, cx_8n (show ¬ (67:Nat) = 68 by decide), cx_f67 hw, hT, nI_clamp (show ck_sk T n S1.1 < 2 ^ 31 by omega), nI_1, ks_eq, ks_ss]; try dsimp only [kx_wp, kx_step, kx_lI, kx_lL, kx_lA, kx_gl, kx_pI, kx_pL, kx_pR, kx_pA, kx_pV, kx_s1, kx_s2, kx_sl, kx_pre, kx_c2, kx_pl, kx_cmp, kx_oF, kx_eqN, kx_nil, kx_c1, kx_ft, kx_aI, kx_aL, kx_aR, kx_ln, Nat.reduceAdd, Option.toList, List.cons_append, List.nil_append, cf8_0, cf8_2, cf8_9, cf9_16])
            repeat' apply And.intro
            all_goals try (first | with_reducible assumption | (with_reducible refine ck_nzI ?_; simp; done) | (with_reducible refine ck_nzL ?_; simp; done) | (with_reducible refine vp_in_nI ?_ ?_ <;> first | omega | decide) | (with_reducible refine Nat.le_of_ble_eq_true ?_; rfl) | omega | exact Or.inl trivial | exact Or.inr trivial | exact Or.inl rfl | exact Or.inr rfl)
            · intro zc24
              first | exact absurd rfl zc24 | exact absurd zc24 (by decide) | exact absurd (by decide) zc24 | (exfalso; first | exact absurd ((nI_leI (a := 400) (b := i) (by omega) (by omega)).mp zc15) (by omega) | exact zc59 hTs | exact zc59 (by rw [hTs]; decide) | exact zc79 hTs | exact zc79 (by rw [hTs]; decide)) | (exfalso; simp_all; done)
            · intro zc24
              with_reducible first | have ze24 := Decidable.not_not.mp zc24 | have ze24 := zc24
              refine hB bX8_readProduct_27 _ _ _ _ _ _ _ kX8_readProduct_27 ?_
              dsimp only [bX8_readProduct_27, kx_wp, kx_step, kx_lI, kx_lL, kx_lA, kx_gl, kx_pI, kx_pL, kx_pR, kx_pA, kx_pV, kx_s1, kx_s2, kx_sl, kx_pre, kx_c2, kx_pl, kx_cmp, kx_oF, kx_eqN, kx_nil, kx_c1, kx_ft, kx_aI, kx_aL, kx_aR, kx_ln, Nat.reduceAdd, Option.toList, List.cons_append, List.nil_append, cf8_0, cf8_2, cf8_9, cf9_16]
              repeat (simp only [cx_8w0 hw, cx_8o, cx_83 hw, cx_84 hw, hQ, hs, pk_us, pk_un, ne_eq, Nat.reduceEqDiff, not_false_eq_true, hE.2.1, cx_8n (show ¬ (67:Nat) = 68 by decide), cx_f67 hw, hT, nI_clamp (show ck_sk T n S1.1 < 2 ^ 31 by omega), nI_1, ks_eq, ks_ss]; try dsimp only [kx_wp, kx_step, kx_lI, kx_lL, kx_lA, kx_gl, kx_pI, kx_pL, kx_pR, kx_pA, kx_pV, kx_s1, kx_s2, kx_sl, kx_pre, kx_c2, kx_pl, kx_cmp, kx_oF, kx_eqN, kx_nil, kx_c1, kx_ft, kx_aI, kx_aL, kx_aR, kx_ln, Nat.reduceAdd, Option.toList, List.cons_append, List.nil_append, cf8_0, cf8_2, cf8_9, cf9_16])
              repeat' apply And.intro
              all_goals try (first | with_reducible assumption | (with_reducible refine ck_nzI ?_; simp; done) | (with_reducible refine ck_nzL ?_; simp; done) | (with_reducible refine vp_in_nI ?_ ?_ <;> first | omega | decide) | (with_reducible refine Nat.le_of_ble_eq_true ?_; rfl) | omega | exact Or.inl trivial | exact Or.inr trivial | exact Or.inl rfl | exact Or.inr rfl)
              refine hC.1 54 _ _ _ _ _ _ _ 8 _ _ _ _ _ _ _ _ _ _ _ _ lX8_54 (hn47) ⟨by decide, rfl⟩ (cx_8o) rfl rfl (Nat.le_of_ble_eq_true rfl) (by first | decide | omega) (by decide) (by omega) (by omega) dX8_readProduct_30 ?_
              refine hB bX8_readProduct_33 _ _ _ _ _ _ _ kX8_readProduct_33 ?_
              dsimp only [bX8_readProduct_33, kx_wp, kx_step, kx_lI, kx_lL, kx_lA, kx_gl, kx_pI, kx_pL, kx_pR, kx_pA, kx_pV, kx_s1, kx_s2, kx_sl, kx_pre, kx_c2, kx_pl, kx_cmp, kx_oF, kx_eqN, kx_nil, kx_c1, kx_ft, kx_aI, kx_aL, kx_aR, kx_ln, Nat.reduceAdd, Option.toList, List.cons_append, List.nil_append, cf8_0, cf8_2, cf8_9, cf9_16]
              repeat (simp only [cx_8w0 hw, cx_8o, cx_83 hw, cx_84 hw, hQ, hs, pk_us, pk_un, ne_eq, Nat.reduceEqDiff, not_false_eq_true, hE.2.1, cx_8n (show ¬ (67:Nat) = 68 by decide), cx_f67 hw, hT, nI_clamp (show ck_sk T n S1.1 < 2 ^ 31 by omega), nI_1, ks_eq, ks_ss]; try dsimp only [kx_wp, kx_step, kx_lI, kx_lL, kx_lA, kx_gl, kx_pI, kx_pL, kx_pR, kx_pA, kx_pV, kx_s1, kx_s2, kx_sl, kx_pre, kx_c2, kx_pl, kx_cmp, kx_oF, kx_eqN, kx_nil, kx_c1, kx_ft, kx_aI, kx_aL, kx_aR, kx_ln, Nat.reduceAdd, Option.toList, List.cons_append, List.nil_append, cf8_0, cf8_2, cf8_9, cf9_16])
              repeat' apply And.intro
              all_goals try (first | with_reducible assumption | (with_reducible refine ck_nzI ?_; simp; done) | (with_reducible refine ck_nzL ?_; simp; done) | (with_reducible refine vp_in_nI ?_ ?_ <;> first | omega | decide) | (with_reducible refine Nat.le_of_ble_eq_true ?_; rfl) | omega | exact Or.inl trivial | exact Or.inr trivial | exact Or.inl rfl | exact Or.inr rfl)
              · intro zc33
                have ze33 := zc33
                refine hB bX8_readProduct_45 _ _ _ _ _ _ _ kX8_readProduct_45 ?_
                dsimp only [bX8_readProduct_45, kx_wp, kx_step, kx_lI, kx_lL, kx_lA, kx_gl, kx_pI, kx_pL, kx_pR, kx_pA, kx_pV, kx_s1, kx_s2, kx_sl, kx_pre, kx_c2, kx_pl, kx_cmp, kx_oF, kx_eqN, kx_nil, kx_c1, kx_ft, kx_aI, kx_aL, kx_aR, kx_ln, Nat.reduceAdd, Option.toList, List.cons_append, List.nil_append, cf8_0, cf8_2, cf8_9, cf9_16]
                repeat (simp only [cx_8w0 hw, cx_8o, cx_83 hw, cx_84 hw, hQ, hs, pk_us, pk_un, ne_eq, Nat.reduceEqDiff, not_false_eq_true, hE.2.1, cx_8n (show ¬ (67:Nat) = 68 by decide), cx_f67 hw, hT, nI_clamp (show ck_sk T n S1.1 < 2 ^ 31 by omega), nI_1, ks_eq, ks_ss]; try dsimp only [kx_wp, kx_step, kx_lI, kx_lL, kx_lA, kx_gl, kx_pI, kx_pL, kx_pR, kx_pA, kx_pV, kx_s1, kx_s2, kx_sl, kx_pre, kx_c2, kx_pl, kx_cmp, kx_oF, kx_eqN, kx_nil, kx_c1, kx_ft, kx_aI, kx_aL, kx_aR, kx_ln, Nat.reduceAdd, Option.toList, List.cons_append, List.nil_append, cf8_0, cf8_2, cf8_9, cf9_16])
                repeat' apply And.intro
                all_goals try (first | with_reducible assumption | (with_reducible refine ck_nzI ?_; simp; done) | (with_reducible refine ck_nzL ?_; simp; done) | (with_reducible refine vp_in_nI ?_ ?_ <;> first | omega | decide) | (with_reducible refine Nat.le_of_ble_eq_true ?_; rfl) | omega | exact Or.inl trivial | exact Or.inr trivial | exact Or.inl rfl | exact Or.inr rfl)
                · intro zc59
                  have ze59 := zc59
                  refine hB bX8_readProduct_68 _ _ _ _ _ _ _ kX8_readProduct_68 ?_
                  dsimp only [bX8_readProduct_68, kx_wp, kx_step, kx_lI, kx_lL, kx_lA, kx_gl, kx_pI, kx_pL, kx_pR, kx_pA, kx_pV, kx_s1, kx_s2, kx_sl, kx_pre, kx_c2, kx_pl, kx_cmp, kx_oF, kx_eqN, kx_nil, kx_c1, kx_ft, kx_aI, kx_aL, kx_aR, kx_ln, Nat.reduceAdd, Option.toList, List.cons_append, List.nil_append, cf8_0, cf8_2, cf8_9, cf9_16]
                  repeat (simp only [cx_8w0 hw, cx_8o, cx_83 hw, cx_84 hw, hQ, hs, pk_us, pk_un, ne_eq, Nat.reduceEqDiff, not_false_eq_true, hE.2.1, cx_8n (show ¬ (67:Nat) = 68 by decide), cx_f67 hw, hT, nI_clamp (show ck_sk T n S1.1 < 2 ^ 31 by omega), nI_1, ks_eq, ks_ss]; try dsimp only [kx_wp, kx_step, kx_lI, kx_lL, kx_lA, kx_gl, kx_pI, kx_pL, kx_pR, kx_pA, kx_pV, kx_s1, kx_s2, kx_sl, kx_pre, kx_c2, kx_pl, kx_cmp, kx_oF, kx_eqN, kx_nil, kx_c1, kx_ft, kx_aI, kx_aL, kx_aR, kx_ln, Nat.reduceAdd, Option.toList, List.cons_append, List.nil_append, cf8_0, cf8_2, cf8_9, cf9_16])
                  repeat' apply And.intro
                  all_goals try (first | with_reducible assumption | (with_reducible refine ck_nzI ?_; simp; done) | (with_reducible refine ck_nzL ?_; simp; done) | (with_reducible refine vp_in_nI ?_ ?_ <;> first | omega | decide) | (with_reducible refine Nat.le_of_ble_eq_true ?_; rfl) | omega | exact Or.inl trivial | exact Or.inr trivial | exact Or.inl rfl | exact Or.inr rfl)
                  · intro zc79
                    first | exact absurd rfl zc79 | exact absurd zc79 (by decide) | exact absurd (by decide) zc79 | (exfalso; first | exact absurd ((nI_leI (a := 400) (b := i) (by omega) (by omega)).mp zc15) (by omega) | exact zc59 hTs | exact zc59 (by rw [hTs]; decide) | exact zc79 hTs | exact zc79 (by rw [hTs]; decide)) | (exfalso; simp_all; done)
                  · intro zc79
                    with_reducible first | have ze79 := Decidable.not_not.mp zc79 | have ze79 := zc79
                    refine hB bX8_readProduct_82 _ _ _ _ _ _ _ kX8_readProduct_82 ?_
                    dsimp only [bX8_readProduct_82, kx_wp, kx_step, kx_lI, kx_lL, kx_lA, kx_gl, kx_pI, kx_pL, kx_pR, kx_pA, kx_pV, kx_s1, kx_s2, kx_sl, kx_pre, kx_c2, kx_pl, kx_cmp, kx_oF, kx_eqN, kx_nil, kx_c1, kx_ft, kx_aI, kx_aL, kx_aR, kx_ln, Nat.reduceAdd, Option.toList, List.cons_append, List.nil_append, cf8_0, cf8_2, cf8_9, cf9_16]
                    repeat (simp only [cx_8w0 hw, cx_8o, cx_83 hw, cx_84 hw, hQ, hs, pk_us, pk_un, ne_eq, Nat.reduceEqDiff, not_false_eq_true, hE.2.1, cx_8n (show ¬ (67:Nat) = 68 by decide), cx_f67 hw, hT, nI_clamp (show ck_sk T n S1.1 < 2 ^ 31 by omega), nI_1, ks_eq, ks_ss]; try dsimp only [kx_wp, kx_step, kx_lI, kx_lL, kx_lA, kx_gl, kx_pI, kx_pL, kx_pR, kx_pA, kx_pV, kx_s1, kx_s2, kx_sl, kx_pre, kx_c2, kx_pl, kx_cmp, kx_oF, kx_eqN, kx_nil, kx_c1, kx_ft, kx_aI, kx_aL, kx_aR, kx_ln, Nat.reduceAdd, Option.toList, List.cons_append, List.nil_append, cf8_0, cf8_2, cf8_9, cf9_16])
                    repeat' apply And.intro
                    all_goals try (first | with_reducible assumption | (with_reducible refine ck_nzI ?_; simp; done) | (with_reducible refine ck_nzL ?_; simp; done) | (with_reducible refine vp_in_nI ?_ ?_ <;> first | omega | decide) | (with_reducible refine Nat.le_of_ble_eq_true ?_; rfl) | omega | exact Or.inl trivial | exact Or.inr trivial | exact Or.inl rfl | exact Or.inr rfl)
                    refine hB bX8_readProduct_85 _ _ _ _ _ _ _ kX8_readProduct_85 ?_
                    dsimp only [bX8_readProduct_85, kx_wp, kx_step, kx_lI, kx_lL, kx_lA, kx_gl, kx_pI, kx_pL, kx_pR, kx_pA, kx_pV, kx_s1, kx_s2, kx_sl, kx_pre, kx_c2, kx_pl, kx_cmp, kx_oF, kx_eqN, kx_nil, kx_c1, kx_ft, kx_aI, kx_aL, kx_aR, kx_ln, Nat.reduceAdd, Option.toList, List.cons_append, List.nil_append, cf8_0, cf8_2, cf8_9, cf9_16]
                    repeat (simp only [cx_8w0 hw, cx_8o, cx_83 hw, cx_84 hw, hQ, hs, pk_us, pk_un, ne_eq, Nat.reduceEqDiff, not_false_eq_true, hE.2.1, cx_8n (show ¬ (67:Nat) = 68 by decide), cx_f67 hw, hT, nI_clamp (show ck_sk T n S1.1 < 2 ^ 31 by omega), nI_1, ks_eq, ks_ss]; try dsimp only [kx_wp, kx_step, kx_lI, kx_lL, kx_lA, kx_gl, kx_pI, kx_pL, kx_pR, kx_pA, kx_pV, kx_s1, kx_s2, kx_sl, kx_pre, kx_c2, kx_pl, kx_cmp, kx_oF, kx_eqN, kx_nil, kx_c1, kx_ft, kx_aI, kx_aL, kx_aR, kx_ln, Nat.reduceAdd, Option.toList, List.cons_append, List.nil_append, cf8_0, cf8_2, cf8_9, cf9_16])
                    repeat' apply And.intro
                    all_goals try (first | with_reducible assumption | (with_reducible refine ck_nzI ?_; simp; done) | (with_reducible refine ck_nzL ?_; simp; done) | (with_reducible refine vp_in_nI ?_ ?_ <;> first | omega | decide) | (with_reducible refine Nat.le_of_ble_eq_true ?_; rfl) | omega | exact Or.inl trivial | exact Or.inr trivial | exact Or.inl rfl | exact Or.inr rfl)
                    refine hC.1 46 _ _ _ _ _ _ _ 8 _ _ _ _ _ _ _ _ _ _ _ _ lX8_46 (ct_X8_skip1 l G (x := .ref w) hTf hE.1 hn hE.2.1 hlt) ⟨by decide, rfl⟩ (cx_8o) rfl rfl (Nat.le_of_ble_eq_true rfl) (by first | decide | omega) (by decide) (by omega) (by omega) dX8_readProduct_87 ?_
                    dsimp only [Option.toList, List.cons_append, List.nil_append]
                    refine hB bX8_readProduct_90 _ _ _ _ _ _ _ kX8_readProduct_90 ?_
                    dsimp only [bX8_readProduct_90, kx_wp, kx_step, kx_lI, kx_lL, kx_lA, kx_gl, kx_pI, kx_pL, kx_pR, kx_pA, kx_pV, kx_s1, kx_s2, kx_sl, kx_pre, kx_c2, kx_pl, kx_cmp, kx_oF, kx_eqN, kx_nil, kx_c1, kx_ft, kx_aI, kx_aL, kx_aR, kx_ln, Nat.reduceAdd, Option.toList, List.cons_append, List.nil_append, cf8_0, cf8_2, cf8_9, cf9_16]
                    repeat (simp only [cx_8w0 hw, cx_8o, cx_83 hw, cx_84 hw, hQ, hs, pk_us, pk_un, ne_eq, Nat.reduceEqDiff, not_false_eq_true, hE.2.1, cx_8n (show ¬ (67:Nat) = 68 by decide), cx_f67 hw, hT, nI_clamp (show ck_sk T n S1.1 < 2 ^ 31 by omega), nI_1, ks_eq, ks_ss]; try dsimp only [kx_wp, kx_step, kx_lI, kx_lL, kx_lA, kx_gl, kx_pI, kx_pL, kx_pR, kx_pA, kx_pV, kx_s1, kx_s2, kx_sl, kx_pre, kx_c2, kx_pl, kx_cmp, kx_oF, kx_eqN, kx_nil, kx_c1, kx_ft, kx_aI, kx_aL, kx_aR, kx_ln, Nat.reduceAdd, Option.toList, List.cons_append, List.nil_append, cf8_0, cf8_2, cf8_9, cf9_16])
                    repeat' apply And.intro
                    all_goals try (first | with_reducible assumption | (with_reducible refine ck_nzI ?_; simp; done) | (with_reducible refine ck_nzL ?_; simp; done) | (with_reducible refine vp_in_nI ?_ ?_ <;> first | omega | decide) | (with_reducible refine Nat.le_of_ble_eq_true ?_; rfl) | omega | exact Or.inl trivial | exact Or.inr trivial | exact Or.inl rfl | exact Or.inr rfl)
                    refine hN.1 212 _ _ _ _ _ _ _ 8 _ _ _ _ _ _ _ _ _ _ lX8_212 (hU (ck_sk T n S1.1 + 1, S1.2) hg hslA hlvA _ _ _ hE2) ⟨by decide, rfl⟩ (cx_8o) rfl rfl (Nat.le_of_ble_eq_true rfl) (by omega) (by decide) (by omega) (by omega) dX8_readProduct_91 ?_
                    rintro r2 P2 s2 ⟨F2, Fo2, st2, rfl, rfl, rfl, hE3, hX3⟩
                    rw [hb9]
                    dsimp only [Option.toList, List.cons_append, List.nil_append]
                    refine hB bX8_readProduct_94 _ _ _ _ _ _ _ kX8_readProduct_94 ?_
                    dsimp only [bX8_readProduct_94, kx_wp, kx_step, kx_lI, kx_lL, kx_lA, kx_gl, kx_pI, kx_pL, kx_pR, kx_pA, kx_pV, kx_s1, kx_s2, kx_sl, kx_pre, kx_c2, kx_pl, kx_cmp, kx_oF, kx_eqN, kx_nil, kx_c1, kx_ft, kx_aI, kx_aL, kx_aR, kx_ln, Nat.reduceAdd, Option.toList, List.cons_append, List.nil_append, cf8_0, cf8_2, cf8_9, cf9_16]
                    repeat (simp only [cx_8w0 hw, cx_8o, cx_83 hw, cx_84 hw, hQ, hs, pk_us, pk_un, ne_eq, Nat.reduceEqDiff, not_false_eq_true, hE.2.1, cx_8n (show ¬ (67:Nat) = 68 by decide), cx_f67 hw, hT, nI_clamp (show ck_sk T n S1.1 < 2 ^ 31 by omega), nI_1, ks_eq, ks_ss]; try dsimp only [kx_wp, kx_step, kx_lI, kx_lL, kx_lA, kx_gl, kx_pI, kx_pL, kx_pR, kx_pA, kx_pV, kx_s1, kx_s2, kx_sl, kx_pre, kx_c2, kx_pl, kx_cmp, kx_oF, kx_eqN, kx_nil, kx_c1, kx_ft, kx_aI, kx_aL, kx_aR, kx_ln, Nat.reduceAdd, Option.toList, List.cons_append, List.nil_append, cf8_0, cf8_2, cf8_9, cf9_16])
                    repeat' apply And.intro
                    all_goals try (first | with_reducible assumption | (with_reducible refine ck_nzI ?_; simp; done) | (with_reducible refine ck_nzL ?_; simp; done) | (with_reducible refine vp_in_nI ?_ ?_ <;> first | omega | decide) | (with_reducible refine Nat.le_of_ble_eq_true ?_; rfl) | omega | exact Or.inl trivial | exact Or.inr trivial | exact Or.inl rfl | exact Or.inr rfl)
                    · intro zc94
                      have ze94 := zc94
                      refine hB bX8_readProduct_115 _ _ _ _ _ _ _ kX8_readProduct_115 ?_
                      dsimp only [bX8_readProduct_115, kx_wp, kx_step, kx_lI, kx_lL, kx_lA, kx_gl, kx_pI, kx_pL, kx_pR, kx_pA, kx_pV, kx_s1, kx_s2, kx_sl, kx_pre, kx_c2, kx_pl, kx_cmp, kx_oF, kx_eqN, kx_nil, kx_c1, kx_ft, kx_aI, kx_aL, kx_aR, kx_ln, Nat.reduceAdd, Option.toList, List.cons_append, List.nil_append, cf8_0, cf8_2, cf8_9, cf9_16]
                      repeat (simp only [cx_8w0 hw, cx_8o, cx_83 hw, cx_84 hw, hQ, hs, pk_us, pk_un, ne_eq, Nat.reduceEqDiff, not_false_eq_true, hE.2.1, cx_8n (show ¬ (67:Nat) = 68 by decide), cx_f67 hw, hT, nI_clamp (show ck_sk T n S1.1 < 2 ^ 31 by omega), nI_1, ks_eq, ks_ss]; try dsimp only [kx_wp, kx_step, kx_lI, kx_lL, kx_lA, kx_gl, kx_pI, kx_pL, kx_pR, kx_pA, kx_pV, kx_s1, kx_s2, kx_sl, kx_pre, kx_c2, kx_pl, kx_cmp, kx_oF, kx_eqN, kx_nil, kx_c1, kx_ft, kx_aI, kx_aL, kx_aR, kx_ln, Nat.reduceAdd, Option.toList, List.cons_append, List.nil_append, cf8_0, cf8_2, cf8_9, cf9_16])
                      repeat' apply And.intro
                      all_goals try (first | with_reducible assumption | (with_reducible refine ck_nzI ?_; simp; done) | (with_reducible refine ck_nzL ?_; simp; done) | (with_reducible refine vp_in_nI ?_ ?_ <;> first | omega | decide) | (with_reducible refine Nat.le_of_ble_eq_true ?_; rfl) | omega | exact Or.inl trivial | exact Or.inr trivial | exact Or.inl rfl | exact Or.inr rfl)
                      refine hB bX8_readProduct_116 _ _ _ _ _ _ _ kX8_readProduct_116 ?_
                      dsimp only [bX8_readProduct_116, kx_wp, kx_step, kx_lI, kx_lL, kx_lA, kx_gl, kx_pI, kx_pL, kx_pR, kx_pA, kx_pV, kx_s1, kx_s2, kx_sl, kx_pre, kx_c2, kx_pl, kx_cmp, kx_oF, kx_eqN, kx_nil, kx_c1, kx_ft, kx_aI, kx_aL, kx_aR, kx_ln, Nat.reduceAdd, Option.toList, List.cons_append, List.nil_append, cf8_0, cf8_2, cf8_9, cf9_16]
                      repeat (simp only [cx_8w0 hw, cx_8o, cx_83 hw, cx_84 hw, hQ, hs, pk_us, pk_un, ne_eq, Nat.reduceEqDiff, not_false_eq_true, hE.2.1, cx_8n (show ¬ (67:Nat) = 68 by decide), cx_f67 hw, hT, nI_clamp (show ck_sk T n S1.1 < 2 ^ 31 by omega), nI_1, ks_eq, ks_ss]; try dsimp only [kx_wp, kx_step, kx_lI, kx_lL, kx_lA, kx_gl, kx_pI, kx_pL, kx_pR, kx_pA, kx_pV, kx_s1, kx_s2, kx_sl, kx_pre, kx_c2, kx_pl, kx_cmp, kx_oF, kx_eqN, kx_nil, kx_c1, kx_ft, kx_aI, kx_aL, kx_aR, kx_ln, Nat.reduceAdd, Option.toList, List.cons_append, List.nil_append, cf8_0, cf8_2, cf8_9, cf9_16])
                      repeat' apply And.intro
                      all_goals try (first | with_reducible assumption | (with_reducible refine ck_nzI ?_; simp; done) | (with_reducible refine ck_nzL ?_; simp; done) | (with_reducible refine vp_in_nI ?_ ?_ <;> first | omega | decide) | (with_reducible refine Nat.le_of_ble_eq_true ?_; rfl) | omega | exact Or.inl trivial | exact Or.inr trivial | exact Or.inl rfl | exact Or.inr rfl)
                      have zi := ih (U (ck_sk T n S1.1 + 1, S1.2)) F2 Fo2 st2 (i + 1) (some (.int (-7))) (fun q => absurd q hg9) hX3 (ck_sl_0 o1.1) (ck_lv_g o1 hlv1) (fun _ => by have := hnn hg; omega) (by omega) he9
                      rw [hb9] at zi
                      exact zi
                    · intro zc94
                      first | exact absurd rfl zc94 | exact absurd zc94 (by decide) | exact absurd (by decide) zc94 | (exfalso; first | exact absurd ((nI_leI (a := 400) (b := i) (by omega) (by omega)).mp zc15) (by omega) | exact zc59 hTs | exact zc59 (by rw [hTs]; decide) | exact zc79 hTs | exact zc79 (by rw [hTs]; decide)) | (exfalso; simp_all; done)
                · intro zc59
                  first | exact absurd rfl zc59 | exact absurd zc59 (by decide) | exact absurd (by decide) zc59 | (exfalso; first | exact absurd ((nI_leI (a := 400) (b := i) (by omega) (by omega)).mp zc15) (by omega) | exact zc59 hTs | exact zc59 (by rw [hTs]; decide) | exact zc79 hTs | exact zc79 (by rw [hTs]; decide)) | (exfalso; simp_all; done)
              · intro zc33
                first | exact absurd rfl zc33 | exact absurd zc33 (by decide) | exact absurd (by decide) zc33 | (exfalso; first | exact absurd ((nI_leI (a := 400) (b := i) (by omega) (by omega)).mp zc15) (by omega) | exact zc59 hTs | exact zc59 (by rw [hTs]; decide) | exact zc79 hTs | exact zc79 (by rw [hTs]; decide)) | (exfalso; simp_all; done)
      · rw [cx_b1 hg]
        have hle := ck_sk_le T hsl1.1
        have hE := hE hg
        have hTf : cx_fW Q w Fo1 st1 67 = kI 0 400 T := (cx_f67 hw).trans hT
        have hlt : ck_sk T n S1.1 < n := cx_nx_lt hop (by decide)
        have hTs : T (ck_sk T n S1.1) = 37 := (if_pos hlt).symm.trans hop
        have hn42 := ct_X8_nextIs_f (l := l) (G := G) (sz := sz) (x := .ref w) hTf hE.1 hn hE.2.1 hle.2 (ch := 42) (by decide) (show ¬ ck_hcx T n S1.1 = 42 by rw [hop]; decide)
        have hn47 := ct_X8_nextIs_f (l := l) (G := G) (sz := sz) (x := .ref w) hTf hE.1 hn hE.2.1 hle.2 (ch := 47) (by decide) (show ¬ ck_hcx T n S1.1 = 47 by rw [hop]; decide)
        have hn37 := ct_X8_nextIs_t (l := l) (G := G) (sz := sz) (x := .ref w) hTf hE.1 hn hE.2.1 hle.2 (ch := 37) (by decide) hop
        have hE2 : cx_E T n (ck_sk T n S1.1 + 1, S1.2) (upd F1 2 (nI (ck_sk T n (ck_sk T n S1.1 + 1)))) Fo1 st1 := ⟨hE.1, rfl, hE.2.2.1, hE.2.2.2.1, hE.2.2.2.2.1, hE.2.2.2.2.2.1, hE.2.2.2.2.2.2⟩
        have hslA : ck_sl n 0 (ck_sk T n S1.1 + 1, S1.2) := ⟨hlt, fun q => Nat.le_trans (hsl1.2 hg) (Nat.le_succ_of_le hle.1)⟩
        have hlvA : ck_lv N (ck_sk T n S1.1 + 1, S1.2) := fun q => hlv1 hg
        obtain ⟨o1, o2⟩ := ck_one_g (T := T) (w := 8) hUg hsl1 hg (show ¬ ck_hcx T n S1.1 = 0 by rw [hop]; decide)
        have hUA := hUg 1 (ck_sk T n S1.1 + 1, S1.2) ⟨hlt, fun q => by have := hsl1.2 hg; show S1.2.2.2.2.1 + 1 ≤ ck_sk T n S1.1 + 1; omega⟩
        have he9 : (if S1.2.1 = -1 ∧ (ck_hcx T n S1.1 = 42 ∨ ck_hcx T n S1.1 = 47 ∨ ck_hcx T n S1.1 = 37) then ck_lpt T n U n9 (ck_one T n U (if ck_hcx T n S1.1 = 42 then 6 else if ck_hcx T n S1.1 = 47 then 7 else 8) S1) else ck_ex T n S1) = ck_te T n U S := he9
        rw [if_pos ⟨hg, (fun z => Or.inr <| Or.inr <| z) hop⟩, if_neg (show ¬ ck_hcx T n S1.1 = 42 by rw [hop]; decide), if_neg (show ¬ ck_hcx T n S1.1 = 47 by rw [hop]; decide)] at he9
        have h99 : ck_one T n U 8 S1 = ck_emR 8 0 (U (ck_sk T n S1.1 + 1, S1.2)) := if_pos hg9
        rw [h99] at o1 o2 he9
        have hb9 := cx_b1 hg9
        have hc4 : (U (ck_sk T n S1.1 + 1, S1.2)).2.2.2.2.1 < 400 := by have := hUA.1.2 hg9; have := hUA.1.1; omega
        refine hB bX8_readProduct_7 _ _ _ _ _ _ _ kX8_readProduct_7 ?_
        dsimp only [bX8_readProduct_7, kx_wp, kx_step, kx_lI, kx_lL, kx_lA, kx_gl, kx_pI, kx_pL, kx_pR, kx_pA, kx_pV, kx_s1, kx_s2, kx_sl, kx_pre, kx_c2, kx_pl, kx_cmp, kx_oF, kx_eqN, kx_nil, kx_c1, kx_ft, kx_aI, kx_aL, kx_aR, kx_ln, Nat.reduceAdd, Option.toList, List.cons_append, List.nil_append, cf8_0, cf8_2, cf8_9, cf9_16]
        repeat (simp only [cx_8w0 hw, cx_8o, cx_83 hw, cx_84 hw, hQ, hs, pk_us, pk_un, ne_eq, Nat.reduceEqDiff, not_false_eq_true, hE.2.1, cx_8n (show ¬ (67:Nat) = 68 by decide), cx_f67 hw, hT, nI_clamp (show ck_sk T n S1.1 < 2 ^ 31 by omega), nI_1, ks_eq, ks_ss]; try dsimp only [kx_wp, kx_step, kx_lI, kx_lL, kx_lA, kx_gl, kx_pI, kx_pL, kx_pR, kx_pA, kx_pV, kx_s1, kx_s2, kx_sl, kx_pre, kx_c2, kx_pl, kx_cmp, kx_oF, kx_eqN, kx_nil, kx_c1, kx_ft, kx_aI, kx_aL, kx_aR, kx_ln, Nat.reduceAdd, Option.toList, List.cons_append, List.nil_append, cf8_0, cf8_2, cf8_9, cf9_16])
        repeat' apply And.intro
        all_goals try (first | with_reducible assumption | (with_reducible refine ck_nzI ?_; simp; done) | (with_reducible refine ck_nzL ?_; simp; done) | (with_reducible refine vp_in_nI ?_ ?_ <;> first | omega | decide) | (with_reducible refine Nat.le_of_ble_eq_true ?_; rfl) | omega | exact Or.inl trivial | exact Or.inr trivial | exact Or.inl rfl | exact Or.inr rfl)
        · intro zc8
          first | exact absurd rfl zc8 | exact absurd zc8 (by decide) | exact absurd (by decide) zc8 | (exfalso; first | exact absurd ((nI_leI (a := 400) (b := i) (by omega) (by omega)).mp zc15) (by omega) | exact zc59 hTs | exact zc59 (by rw [hTs]; decide) | exact zc79 hTs | exact zc79 (by rw [hTs]; decide)) | (exfalso; simp_all; done)
        · intro zc8
          have ze8 := zc8
          refine hB bX8_readProduct_11 _ _ _ _ _ _ _ kX8_readProduct_11 ?_
          dsimp only [bX8_readProduct_11, kx_wp, kx_step, kx_lI, kx_lL, kx_lA, kx_gl, kx_pI, kx_pL, kx_pR, kx_pA, kx_pV, kx_s1, kx_s2, kx_sl, kx_pre, kx_c2, kx_pl, kx_cmp, kx_oF, kx_eqN, kx_nil, kx_c1, kx_ft, kx_aI, kx_aL, kx_aR, kx_ln, Nat.reduceAdd, Option.toList, List.cons_append, List.nil_append, cf8_0, cf8_2, cf8_9, cf9_16]
          repeat (simp only [cx_8w0 hw, cx_8o, cx_83 hw, cx_84 hw, hQ, hs, pk_us, pk_un, ne_eq, Nat.reduceEqDiff, not_false_eq_true, hE.2.1, cx_8n (show ¬ (67:Nat) = 68 by decide), cx_f67 hw, hT, nI_clamp (show ck_sk T n S1.1 < 2 ^ 31 by omega), nI_1, ks_eq, ks_ss]; try dsimp only [kx_wp, kx_step, kx_lI, kx_lL, kx_lA, kx_gl, kx_pI, kx_pL, kx_pR, kx_pA, kx_pV, kx_s1, kx_s2, kx_sl, kx_pre, kx_c2, kx_pl, kx_cmp, kx_oF, kx_eqN, kx_nil, kx_c1, kx_ft, kx_aI, kx_aL, kx_aR, kx_ln, Nat.reduceAdd, Option.toList, List.cons_append, List.nil_append, cf8_0, cf8_2, cf8_9, cf9_16])
          repeat' apply And.intro
          all_goals try (first | with_reducible assumption | (with_reducible refine ck_nzI ?_; simp; done) | (with_reducible refine ck_nzL ?_; simp; done) | (with_reducible refine vp_in_nI ?_ ?_ <;> first | omega | decide) | (with_reducible refine Nat.le_of_ble_eq_true ?_; rfl) | omega | exact Or.inl trivial | exact Or.inr trivial | exact Or.inl rfl | exact Or.inr rfl)
          · intro zc15
            first | exact absurd rfl zc15 | exact absurd zc15 (by decide) | exact absurd (by decide) zc15 | (exfalso; first | exact absurd ((nI_leI (a := 400) (b := i) (by omega) (by omega)).mp zc15) (by omega) | exact zc59 hTs | exact zc59 (by rw [hTs]; decide) | exact zc79 hTs | exact zc79 (by rw [hTs]; decide)) | (exfalso; simp_all; done)
          · intro zc15
            with_reducible first | have ze15 := Int32.not_le.mp zc15 | have ze15 := zc15
            refine hB bX8_readProduct_18 _ _ _ _ _ _ _ kX8_readProduct_18 ?_
            dsimp only [bX8_readProduct_18, kx_wp, kx_step, kx_lI, kx_lL, kx_lA, kx_gl, kx_pI, kx_pL, kx_pR, kx_pA, kx_pV, kx_s1, kx_s2, kx_sl, kx_pre, kx_c2, kx_pl, kx_cmp, kx_oF, kx_eqN, kx_nil, kx_c1, kx_ft, kx_aI, kx_aL, kx_aR, kx_ln, Nat.reduceAdd, Option.toList, List.cons_append, List.nil_append, cf8_0, cf8_2, cf8_9, cf9_16]
            repeat (simp only [cx_8w0 hw, cx_8o, cx_83 hw, cx_84 hw, hQ, hs, pk_us, pk_un, ne_eq, Nat.reduceEqDiff, not_false_eq_true, hE.2.1, cx_8n (show ¬ (67:Nat) = 68 by decide), cx_f67 hw, hT, nI_clamp (show ck_sk T n S1.1 < 2 ^ 31 by omega), nI_1, ks_eq, ks_ss]; try dsimp only [kx_wp, kx_step, kx_lI, kx_lL, kx_lA, kx_gl, kx_pI, kx_pL, kx_pR, kx_pA, kx_pV, kx_s1, kx_s2, kx_sl, kx_pre, kx_c2, kx_pl, kx_cmp, kx_oF, kx_eqN, kx_nil, kx_c1, kx_ft, kx_aI, kx_aL, kx_aR, kx_ln, Nat.reduceAdd, Option.toList, List.cons_append, List.nil_append, cf8_0, cf8_2, cf8_9, cf9_16])
            repeat' apply And.intro
            all_goals try (first | with_reducible assumption | (with_reducible refine ck_nzI ?_; simp; done) | (with_reducible refine ck_nzL ?_; simp; done) | (with_reducible refine vp_in_nI ?_ ?_ <;> first | omega | decide) | (with_reducible refine Nat.le_of_ble_eq_true ?_; rfl) | omega | exact Or.inl trivial | exact Or.inr trivial | exact Or.inl rfl | exact Or.inr rfl)
            refine hC.1 54 _ _ _ _ _ _ _ 8 _ _ _ _ _ _ _ _ _ _ _ _ lX8_54 (hn42) ⟨by decide, rfl⟩ (cx_8o) rfl rfl (Nat.le_of_ble_eq_true rfl) (by first | decide | omega) (by decide) (by omega) (by omega) dX8_readProduct_21 ?_
            refine hB bX8_readProduct_24 _ _ _ _ _ _ _ kX8_readProduct_24 ?_
            dsimp only [bX8_readProduct_24, kx_wp, kx_step, kx_lI, kx_lL, kx_lA, kx_gl, kx_pI, kx_pL, kx_pR, kx_pA, kx_pV, kx_s1, kx_s2, kx_sl, kx_pre, kx_c2, kx_pl, kx_cmp, kx_oF, kx_eqN, kx_nil, kx_c1, kx_ft, kx_aI, kx_aL, kx_aR, kx_ln, Nat.reduceAdd, Option.toList, List.cons_append, List.nil_append, cf8_0, cf8_2, cf8_9, cf9_16]
            repeat (simp only [cx_8w0 hw, cx_8o, cx_83 hw, cx_84 hw, hQ, hs, pk_us, pk_un, ne_eq, Nat.reduceEqDiff, not_false_eq_true, hE.2.1, cx_8n (show ¬ (67:Nat) = 68 by decide), cx_f67 hw, hT, nI_clamp (show ck_sk T n S1.1 < 2 ^ 31 by omega), nI_1, ks_eq, ks_ss]; try dsimp only [kx_wp, kx_step, kx_lI, kx_lL, kx_lA, kx_gl, kx_pI, kx_pL, kx_pR, kx_pA, kx_pV, kx_s1, kx_s2, kx_sl, kx_pre, kx_c2, kx_pl, kx_cmp, kx_oF, kx_eqN, kx_nil, kx_c1, kx_ft, kx_aI, kx_aL, kx_aR, kx_ln, Nat.reduceAdd, Option.toList, List.cons_append, List.nil_append, cf8_0, cf8_2, cf8_9, cf9_16])
            repeat' apply And.intro
            all_goals try (first | with_reducible assumption | (with_reducible refine ck_nzI ?_; simp; done) | (with_reducible refine ck_nzL ?_; simp; done) | (with_reducible refine vp_in_nI ?_ ?_ <;> first | omega | decide) | (with_reducible refine Nat.le_of_ble_eq_true ?_; rfl) | omega | exact Or.inl trivial | exact Or.inr trivial | exact Or.inl rfl | exact Or.inr rfl)
            · intro zc24
              first | exact absurd rfl zc24 | exact absurd zc24 (by decide) | exact absurd (by decide) zc24 | (exfalso; first | exact absurd ((nI_leI (a := 400) (b := i) (by omega) (by omega)).mp zc15) (by omega) | exact zc59 hTs | exact zc59 (by rw [hTs]; decide) | exact zc79 hTs | exact zc79 (by rw [hTs]; decide)) | (exfalso; simp_all; done)
            · intro zc24
              with_reducible first | have ze24 := Decidable.not_not.mp zc24 | have ze24 := zc24
              refine hB bX8_readProduct_27 _ _ _ _ _ _ _ kX8_readProduct_27 ?_
              dsimp only [bX8_readProduct_27, kx_wp, kx_step, kx_lI, kx_lL, kx_lA, kx_gl, kx_pI, kx_pL, kx_pR, kx_pA, kx_pV, kx_s1, kx_s2, kx_sl, kx_pre, kx_c2, kx_pl, kx_cmp, kx_oF, kx_eqN, kx_nil, kx_c1, kx_ft, kx_aI, kx_aL, kx_aR, kx_ln, Nat.reduceAdd, Option.toList, List.cons_append, List.nil_append, cf8_0, cf8_2, cf8_9, cf9_16]
              repeat (simp only [cx_8w0 hw, cx_8o, cx_83 hw, cx_84 hw, hQ, hs, pk_us, pk_un, ne_eq, Nat.reduceEqDiff, not_false_eq_true, hE.2.1, cx_8n (show ¬ (67:Nat) = 68 by decide), cx_f67 hw, hT, nI_clamp (show ck_sk T n S1.1 < 2 ^ 31 by omega), nI_1, ks_eq, ks_ss]; try dsimp only [kx_wp, kx_step, kx_lI, kx_lL, kx_lA, kx_gl, kx_pI, kx_pL, kx_pR, kx_pA, kx_pV, kx_s1, kx_s2, kx_sl, kx_pre, kx_c2, kx_pl, kx_cmp, kx_oF, kx_eqN, kx_nil, kx_c1, kx_ft, kx_aI, kx_aL, kx_aR, kx_ln, Nat.reduceAdd, Option.toList, List.cons_append, List.nil_append, cf8_0, cf8_2, cf8_9, cf9_16])
              repeat' apply And.intro
              all_goals try (first | with_reducible assumption | (with_reducible refine ck_nzI ?_; simp; done) | (with_reducible refine ck_nzL ?_; simp; done) | (with_reducible refine vp_in_nI ?_ ?_ <;> first | omega | decide) | (with_reducible refine Nat.le_of_ble_eq_true ?_; rfl) | omega | exact Or.inl trivial | exact Or.inr trivial | exact Or.inl rfl | exact Or.inr rfl)
              refine hC.1 54 _ _ _ _ _ _ _ 8 _ _ _ _ _ _ _ _ _ _ _ _ lX8_54 (hn47) ⟨by decide, rfl⟩ (cx_8o) rfl rfl (Nat.le_of_ble_eq_true rfl) (by first | decide | omega) (by decide) (by omega) (by omega) dX8_readProduct_30 ?_
              refine hB bX8_readProduct_33 _ _ _ _ _ _ _ kX8_readProduct_33 ?_
              dsimp only [bX8_readProduct_33, kx_wp, kx_step, kx_lI, kx_lL, kx_lA, kx_gl, kx_pI, kx_pL, kx_pR, kx_pA, kx_pV, kx_s1, kx_s2, kx_sl, kx_pre, kx_c2, kx_pl, kx_cmp, kx_oF, kx_eqN, kx_nil, kx_c1, kx_ft, kx_aI, kx_aL, kx_aR, kx_ln, Nat.reduceAdd, Option.toList, List.cons_append, List.nil_append, cf8_0, cf8_2, cf8_9, cf9_16]
              repeat (simp only [cx_8w0 hw, cx_8o, cx_83 hw, cx_84 hw, hQ, hs, pk_us, pk_un, ne_eq, Nat.reduceEqDiff, not_false_eq_true, hE.2.1, cx_8n (show ¬ (67:Nat) = 68 by decide), cx_f67 hw, hT, nI_clamp (show ck_sk T n S1.1 < 2 ^ 31 by omega), nI_1, ks_eq, ks_ss]; try dsimp only [kx_wp, kx_step, kx_lI, kx_lL, kx_lA, kx_gl, kx_pI, kx_pL, kx_pR, kx_pA, kx_pV, kx_s1, kx_s2, kx_sl, kx_pre, kx_c2, kx_pl, kx_cmp, kx_oF, kx_eqN, kx_nil, kx_c1, kx_ft, kx_aI, kx_aL, kx_aR, kx_ln, Nat.reduceAdd, Option.toList, List.cons_append, List.nil_append, cf8_0, cf8_2, cf8_9, cf9_16])
              repeat' apply And.intro
              all_goals try (first | with_reducible assumption | (with_reducible refine ck_nzI ?_; simp; done) | (with_reducible refine ck_nzL ?_; simp; done) | (with_reducible refine vp_in_nI ?_ ?_ <;> first | omega | decide) | (with_reducible refine Nat.le_of_ble_eq_true ?_; rfl) | omega | exact Or.inl trivial | exact Or.inr trivial | exact Or.inl rfl | exact Or.inr rfl)
              · intro zc33
                first | exact absurd rfl zc33 | exact absurd zc33 (by decide) | exact absurd (by decide) zc33 | (exfalso; first | exact absurd ((nI_leI (a := 400) (b := i) (by omega) (by omega)).mp zc15) (by omega) | exact zc59 hTs | exact zc59 (by rw [hTs]; decide) | exact zc79 hTs | exact zc79 (by rw [hTs]; decide)) | (exfalso; simp_all; done)
              · intro zc33
                with_reducible first | have ze33 := Decidable.not_not.mp zc33 | have ze33 := zc33
                refine hB bX8_readProduct_36 _ _ _ _ _ _ _ kX8_readProduct_36 ?_
                dsimp only [bX8_readProduct_36, kx_wp, kx_step, kx_lI, kx_lL, kx_lA, kx_gl, kx_pI, kx_pL, kx_pR, kx_pA, kx_pV, kx_s1, kx_s2, kx_sl, kx_pre, kx_c2, kx_pl, kx_cmp, kx_oF, kx_eqN, kx_nil, kx_c1, kx_ft, kx_aI, kx_aL, kx_aR, kx_ln, Nat.reduceAdd, Option.toList, List.cons_append, List.nil_append, cf8_0, cf8_2, cf8_9, cf9_16]
                repeat (simp only [cx_8w0 hw, cx_8o, cx_83 hw, cx_84 hw, hQ, hs, pk_us, pk_un, ne_eq, Nat.reduceEqDiff, not_false_eq_true, hE.2.1, cx_8n (show ¬ (67:Nat) = 68 by decide), cx_f67 hw, hT, nI_clamp (show ck_sk T n S1.1 < 2 ^ 31 by omega), nI_1, ks_eq, ks_ss]; try dsimp only [kx_wp, kx_step, kx_lI, kx_lL, kx_lA, kx_gl, kx_pI, kx_pL, kx_pR, kx_pA, kx_pV, kx_s1, kx_s2, kx_sl, kx_pre, kx_c2, kx_pl, kx_cmp, kx_oF, kx_eqN, kx_nil, kx_c1, kx_ft, kx_aI, kx_aL, kx_aR, kx_ln, Nat.reduceAdd, Option.toList, List.cons_append, List.nil_append, cf8_0, cf8_2, cf8_9, cf9_16])
                repeat' apply And.intro
                all_goals try (first | with_reducible assumption | (with_reducible refine ck_nzI ?_; simp; done) | (with_reducible refine ck_nzL ?_; simp; done) | (with_reducible refine vp_in_nI ?_ ?_ <;> first | omega | decide) | (with_reducible refine Nat.le_of_ble_eq_true ?_; rfl) | omega | exact Or.inl trivial | exact Or.inr trivial | exact Or.inl rfl | exact Or.inr rfl)
                refine hC.1 54 _ _ _ _ _ _ _ 8 _ _ _ _ _ _ _ _ _ _ _ _ lX8_54 (hn37) ⟨by decide, rfl⟩ (cx_8o) rfl rfl (Nat.le_of_ble_eq_true rfl) (by first | decide | omega) (by decide) (by omega) (by omega) dX8_readProduct_39 ?_
                refine hB bX8_readProduct_42 _ _ _ _ _ _ _ kX8_readProduct_42 ?_
                dsimp only [bX8_readProduct_42, kx_wp, kx_step, kx_lI, kx_lL, kx_lA, kx_gl, kx_pI, kx_pL, kx_pR, kx_pA, kx_pV, kx_s1, kx_s2, kx_sl, kx_pre, kx_c2, kx_pl, kx_cmp, kx_oF, kx_eqN, kx_nil, kx_c1, kx_ft, kx_aI, kx_aL, kx_aR, kx_ln, Nat.reduceAdd, Option.toList, List.cons_append, List.nil_append, cf8_0, cf8_2, cf8_9, cf9_16]
                repeat (simp only [cx_8w0 hw, cx_8o, cx_83 hw, cx_84 hw, hQ, hs, pk_us, pk_un, ne_eq, Nat.reduceEqDiff, not_false_eq_true, hE.2.1, cx_8n (show ¬ (67:Nat) = 68 by decide), cx_f67 hw, hT, nI_clamp (show ck_sk T n S1.1 < 2 ^ 31 by omega), nI_1, ks_eq, ks_ss]; try dsimp only [kx_wp, kx_step, kx_lI, kx_lL, kx_lA, kx_gl, kx_pI, kx_pL, kx_pR, kx_pA, kx_pV, kx_s1, kx_s2, kx_sl, kx_pre, kx_c2, kx_pl, kx_cmp, kx_oF, kx_eqN, kx_nil, kx_c1, kx_ft, kx_aI, kx_aL, kx_aR, kx_ln, Nat.reduceAdd, Option.toList, List.cons_append, List.nil_append, cf8_0, cf8_2, cf8_9, cf9_16])
                repeat' apply And.intro
                all_goals try (first | with_reducible assumption | (with_reducible refine ck_nzI ?_; simp; done) | (with_reducible refine ck_nzL ?_; simp; done) | (with_reducible refine vp_in_nI ?_ ?_ <;> first | omega | decide) | (with_reducible refine Nat.le_of_ble_eq_true ?_; rfl) | omega | exact Or.inl trivial | exact Or.inr trivial | exact Or.inl rfl | exact Or.inr rfl)
                · intro zc42
                  first | exact absurd rfl zc42 | exact absurd zc42 (by decide) | exact absurd (by decide) zc42 | (exfalso; first | exact absurd ((nI_leI (a := 400) (b := i) (by omega) (by omega)).mp zc15) (by omega) | exact zc59 hTs | exact zc59 (by rw [hTs]; decide) | exact zc79 hTs | exact zc79 (by rw [hTs]; decide)) | (exfalso; simp_all; done)
                · intro zc42
                  have ze42 := zc42
                  refine hB bX8_readProduct_45 _ _ _ _ _ _ _ kX8_readProduct_45 ?_
                  dsimp only [bX8_readProduct_45, kx_wp, kx_step, kx_lI, kx_lL, kx_lA, kx_gl, kx_pI, kx_pL, kx_pR, kx_pA, kx_pV, kx_s1, kx_s2, kx_sl, kx_pre, kx_c2, kx_pl, kx_cmp, kx_oF, kx_eqN, kx_nil, kx_c1, kx_ft, kx_aI, kx_aL, kx_aR, kx_ln, Nat.reduceAdd, Option.toList, List.cons_append, List.nil_append, cf8_0, cf8_2, cf8_9, cf9_16]
                  repeat (simp only [cx_8w0 hw, cx_8o, cx_83 hw, cx_84 hw, hQ, hs, pk_us, pk_un, ne_eq, Nat.reduceEqDiff, not_false_eq_true, hE.2.1, cx_8n (show ¬ (67:Nat) = 68 by decide), cx_f67 hw, hT, nI_clamp (show ck_sk T n S1.1 < 2 ^ 31 by omega), nI_1, ks_eq, ks_ss]; try dsimp only [kx_wp, kx_step, kx_lI, kx_lL, kx_lA, kx_gl, kx_pI, kx_pL, kx_pR, kx_pA, kx_pV, kx_s1, kx_s2, kx_sl, kx_pre, kx_c2, kx_pl, kx_cmp, kx_oF, kx_eqN, kx_nil, kx_c1, kx_ft, kx_aI, kx_aL, kx_aR, kx_ln, Nat.reduceAdd, Option.toList, List.cons_append, List.nil_append, cf8_0, cf8_2, cf8_9, cf9_16])
                  repeat' apply And.intro
                  all_goals try (first | with_reducible assumption | (with_reducible refine ck_nzI ?_; simp; done) | (with_reducible refine ck_nzL ?_; simp; done) | (with_reducible refine vp_in_nI ?_ ?_ <;> first | omega | decide) | (with_reducible refine Nat.le_of_ble_eq_true ?_; rfl) | omega | exact Or.inl trivial | exact Or.inr trivial | exact Or.inl rfl | exact Or.inr rfl)
                  · intro zc59
                    have ze59 := zc59
                    refine hB bX8_readProduct_68 _ _ _ _ _ _ _ kX8_readProduct_68 ?_
                    dsimp only [bX8_readProduct_68, kx_wp, kx_step, kx_lI, kx_lL, kx_lA, kx_gl, kx_pI, kx_pL, kx_pR, kx_pA, kx_pV, kx_s1, kx_s2, kx_sl, kx_pre, kx_c2, kx_pl, kx_cmp, kx_oF, kx_eqN, kx_nil, kx_c1, kx_ft, kx_aI, kx_aL, kx_aR, kx_ln, Nat.reduceAdd, Option.toList, List.cons_append, List.nil_append, cf8_0, cf8_2, cf8_9, cf9_16]
                    repeat (simp only [cx_8w0 hw, cx_8o, cx_83 hw, cx_84 hw, hQ, hs, pk_us, pk_un, ne_eq, Nat.reduceEqDiff, not_false_eq_true, hE.2.1, cx_8n (show ¬ (67:Nat) = 68 by decide), cx_f67 hw, hT, nI_clamp (show ck_sk T n S1.1 < 2 ^ 31 by omega), nI_1, ks_eq, ks_ss]; try dsimp only [kx_wp, kx_step, kx_lI, kx_lL, kx_lA, kx_gl, kx_pI, kx_pL, kx_pR, kx_pA, kx_pV, kx_s1, kx_s2, kx_sl, kx_pre, kx_c2, kx_pl, kx_cmp, kx_oF, kx_eqN, kx_nil, kx_c1, kx_ft, kx_aI, kx_aL, kx_aR, kx_ln, Nat.reduceAdd, Option.toList, List.cons_append, List.nil_append, cf8_0, cf8_2, cf8_9, cf9_16])
                    repeat' apply And.intro
                    all_goals try (first | with_reducible assumption | (with_reducible refine ck_nzI ?_; simp; done) | (with_reducible refine ck_nzL ?_; simp; done) | (with_reducible refine vp_in_nI ?_ ?_ <;> first | omega | decide) | (with_reducible refine Nat.le_of_ble_eq_true ?_; rfl) | omega | exact Or.inl trivial | exact Or.inr trivial | exact Or.inl rfl | exact Or.inr rfl)
                    · intro zc79
                      have ze79 := zc79
                      refine hB bX8_readProduct_85 _ _ _ _ _ _ _ kX8_readProduct_85 ?_
                      dsimp only [bX8_readProduct_85, kx_wp, kx_step, kx_lI, kx_lL, kx_lA, kx_gl, kx_pI, kx_pL, kx_pR, kx_pA, kx_pV, kx_s1, kx_s2, kx_sl, kx_pre, kx_c2, kx_pl, kx_cmp, kx_oF, kx_eqN, kx_nil, kx_c1, kx_ft, kx_aI, kx_aL, kx_aR, kx_ln, Nat.reduceAdd, Option.toList, List.cons_append, List.nil_append, cf8_0, cf8_2, cf8_9, cf9_16]
                      repeat (simp only [cx_8w0 hw, cx_8o, cx_83 hw, cx_84 hw, hQ, hs, pk_us, pk_un, ne_eq, Nat.reduceEqDiff, not_false_eq_true, hE.2.1, cx_8n (show ¬ (67:Nat) = 68 by decide), cx_f67 hw, hT, nI_clamp (show ck_sk T n S1.1 < 2 ^ 31 by omega), nI_1, ks_eq, ks_ss]; try dsimp only [kx_wp, kx_step, kx_lI, kx_lL, kx_lA, kx_gl, kx_pI, kx_pL, kx_pR, kx_pA, kx_pV, kx_s1, kx_s2, kx_sl, kx_pre, kx_c2, kx_pl, kx_cmp, kx_oF, kx_eqN, kx_nil, kx_c1, kx_ft, kx_aI, kx_aL, kx_aR, kx_ln, Nat.reduceAdd, Option.toList, List.cons_append, List.nil_append, cf8_0, cf8_2, cf8_9, cf9_16])
                      repeat' apply And.intro
                      all_goals try (first | with_reducible assumption | (with_reducible refine ck_nzI ?_; simp; done) | (with_reducible refine ck_nzL ?_; simp; done) | (with_reducible refine vp_in_nI ?_ ?_ <;> first | omega | decide) | (with_reducible refine Nat.le_of_ble_eq_true ?_; rfl) | omega | exact Or.inl trivial | exact Or.inr trivial | exact Or.inl rfl | exact Or.inr rfl)
                      refine hC.1 46 _ _ _ _ _ _ _ 8 _ _ _ _ _ _ _ _ _ _ _ _ lX8_46 (ct_X8_skip1 l G (x := .ref w) hTf hE.1 hn hE.2.1 hlt) ⟨by decide, rfl⟩ (cx_8o) rfl rfl (Nat.le_of_ble_eq_true rfl) (by first | decide | omega) (by decide) (by omega) (by omega) dX8_readProduct_87 ?_
                      dsimp only [Option.toList, List.cons_append, List.nil_append]
                      refine hB bX8_readProduct_90 _ _ _ _ _ _ _ kX8_readProduct_90 ?_
                      dsimp only [bX8_readProduct_90, kx_wp, kx_step, kx_lI, kx_lL, kx_lA, kx_gl, kx_pI, kx_pL, kx_pR, kx_pA, kx_pV, kx_s1, kx_s2, kx_sl, kx_pre, kx_c2, kx_pl, kx_cmp, kx_oF, kx_eqN, kx_nil, kx_c1, kx_ft, kx_aI, kx_aL, kx_aR, kx_ln, Nat.reduceAdd, Option.toList, List.cons_append, List.nil_append, cf8_0, cf8_2, cf8_9, cf9_16]
                      repeat (simp only [cx_8w0 hw, cx_8o, cx_83 hw, cx_84 hw, hQ, hs, pk_us, pk_un, ne_eq, Nat.reduceEqDiff, not_false_eq_true, hE.2.1, cx_8n (show ¬ (67:Nat) = 68 by decide), cx_f67 hw, hT, nI_clamp (show ck_sk T n S1.1 < 2 ^ 31 by omega), nI_1, ks_eq, ks_ss]; try dsimp only [kx_wp, kx_step, kx_lI, kx_lL, kx_lA, kx_gl, kx_pI, kx_pL, kx_pR, kx_pA, kx_pV, kx_s1, kx_s2, kx_sl, kx_pre, kx_c2, kx_pl, kx_cmp, kx_oF, kx_eqN, kx_nil, kx_c1, kx_ft, kx_aI, kx_aL, kx_aR, kx_ln, Nat.reduceAdd, Option.toList, List.cons_append, List.nil_append, cf8_0, cf8_2, cf8_9, cf9_16])
                      repeat' apply And.intro
                      all_goals try (first | with_reducible assumption | (with_reducible refine ck_nzI ?_; simp; done) | (with_reducible refine ck_nzL ?_; simp; done) | (with_reducible refine vp_in_nI ?_ ?_ <;> first | omega | decide) | (with_reducible refine Nat.le_of_ble_eq_true ?_; rfl) | omega | exact Or.inl trivial | exact Or.inr trivial | exact Or.inl rfl | exact Or.inr rfl)
                      refine hN.1 212 _ _ _ _ _ _ _ 8 _ _ _ _ _ _ _ _ _ _ lX8_212 (hU (ck_sk T n S1.1 + 1, S1.2) hg hslA hlvA _ _ _ hE2) ⟨by decide, rfl⟩ (cx_8o) rfl rfl (Nat.le_of_ble_eq_true rfl) (by omega) (by decide) (by omega) (by omega) dX8_readProduct_91 ?_
                      rintro r2 P2 s2 ⟨F2, Fo2, st2, rfl, rfl, rfl, hE3, hX3⟩
                      rw [hb9]
                      dsimp only [Option.toList, List.cons_append, List.nil_append]
                      refine hB bX8_readProduct_94 _ _ _ _ _ _ _ kX8_readProduct_94 ?_
                      dsimp only [bX8_readProduct_94, kx_wp, kx_step, kx_lI, kx_lL, kx_lA, kx_gl, kx_pI, kx_pL, kx_pR, kx_pA, kx_pV, kx_s1, kx_s2, kx_sl, kx_pre, kx_c2, kx_pl, kx_cmp, kx_oF, kx_eqN, kx_nil, kx_c1, kx_ft, kx_aI, kx_aL, kx_aR, kx_ln, Nat.reduceAdd, Option.toList, List.cons_append, List.nil_append, cf8_0, cf8_2, cf8_9, cf9_16]
                      repeat (simp only [cx_8w0 hw, cx_8o, cx_83 hw, cx_84 hw, hQ, hs, pk_us, pk_un, ne_eq, Nat.reduceEqDiff, not_false_eq_true, hE.2.1, cx_8n (show ¬ (67:Nat) = 68 by decide), cx_f67 hw, hT, nI_clamp (show ck_sk T n S1.1 < 2 ^ 31 by omega), nI_1, ks_eq, ks_ss]; try dsimp only [kx_wp, kx_step, kx_lI, kx_lL, kx_lA, kx_gl, kx_pI, kx_pL, kx_pR, kx_pA, kx_pV, kx_s1, kx_s2, kx_sl, kx_pre, kx_c2, kx_pl, kx_cmp, kx_oF, kx_eqN, kx_nil, kx_c1, kx_ft, kx_aI, kx_aL, kx_aR, kx_ln, Nat.reduceAdd, Option.toList, List.cons_append, List.nil_append, cf8_0, cf8_2, cf8_9, cf9_16])
                      repeat' apply And.intro
                      all_goals try (first | with_reducible assumption | (with_reducible refine ck_nzI ?_; simp; done) | (with_reducible refine ck_nzL ?_; simp; done) | (with_reducible refine vp_in_nI ?_ ?_ <;> first | omega | decide) | (with_reducible refine Nat.le_of_ble_eq_true ?_; rfl) | omega | exact Or.inl trivial | exact Or.inr trivial | exact Or.inl rfl | exact Or.inr rfl)
                      · intro zc94
                        first | exact absurd rfl zc94 | exact absurd zc94 (by decide) | exact absurd (by decide) zc94 | (exfalso; first | exact absurd ((nI_leI (a := 400) (b := i) (by omega) (by omega)).mp zc15) (by omega) | exact zc59 hTs | exact zc59 (by rw [hTs]; decide) | exact zc79 hTs | exact zc79 (by rw [hTs]; decide)) | (exfalso; simp_all; done)
                      · intro zc94
                        have ze94 := zc94
                        refine hB bX8_readProduct_97 _ _ _ _ _ _ _ kX8_readProduct_97 ?_
                        dsimp only [bX8_readProduct_97, kx_wp, kx_step, kx_lI, kx_lL, kx_lA, kx_gl, kx_pI, kx_pL, kx_pR, kx_pA, kx_pV, kx_s1, kx_s2, kx_sl, kx_pre, kx_c2, kx_pl, kx_cmp, kx_oF, kx_eqN, kx_nil, kx_c1, kx_ft, kx_aI, kx_aL, kx_aR, kx_ln, Nat.reduceAdd, Option.toList, List.cons_append, List.nil_append, cf8_0, cf8_2, cf8_9, cf9_16]
                        repeat (simp only [cx_8w0 hw, cx_8o, cx_83 hw, cx_84 hw, hQ, hs, pk_us, pk_un, ne_eq, Nat.reduceEqDiff, not_false_eq_true, hE.2.1, cx_8n (show ¬ (67:Nat) = 68 by decide), cx_f67 hw, hT, nI_clamp (show ck_sk T n S1.1 < 2 ^ 31 by omega), nI_1, ks_eq, ks_ss]; try dsimp only [kx_wp, kx_step, kx_lI, kx_lL, kx_lA, kx_gl, kx_pI, kx_pL, kx_pR, kx_pA, kx_pV, kx_s1, kx_s2, kx_sl, kx_pre, kx_c2, kx_pl, kx_cmp, kx_oF, kx_eqN, kx_nil, kx_c1, kx_ft, kx_aI, kx_aL, kx_aR, kx_ln, Nat.reduceAdd, Option.toList, List.cons_append, List.nil_append, cf8_0, cf8_2, cf8_9, cf9_16])
                        repeat' apply And.intro
                        all_goals try (first | with_reducible assumption | (with_reducible refine ck_nzI ?_; simp; done) | (with_reducible refine ck_nzL ?_; simp; done) | (with_reducible refine vp_in_nI ?_ ?_ <;> first | omega | decide) | (with_reducible refine Nat.le_of_ble_eq_true ?_; rfl) | omega | exact Or.inl trivial | exact Or.inr trivial | exact Or.inl rfl | exact Or.inr rfl)
                        refine hC.1 209 _ _ _ _ _ _ _ 2 _ _ _ _ _ _ _ _ _ _ _ _ lX8_209 (ct_X2_add l G (P := Q) hw (hE3 hg9).2.2.2.2.2.1 hc4) ⟨by decide, rfl⟩ (cx_83 hw) rfl rfl (Nat.le_of_ble_eq_true rfl) (by first | decide | omega) (by decide) (by omega) (by omega) dX8_readProduct_105 ?_
                        refine hB bX8_readProduct_108 _ _ _ _ _ _ _ kX8_readProduct_108 ?_
                        dsimp only [bX8_readProduct_108, kx_wp, kx_step, kx_lI, kx_lL, kx_lA, kx_gl, kx_pI, kx_pL, kx_pR, kx_pA, kx_pV, kx_s1, kx_s2, kx_sl, kx_pre, kx_c2, kx_pl, kx_cmp, kx_oF, kx_eqN, kx_nil, kx_c1, kx_ft, kx_aI, kx_aL, kx_aR, kx_ln, Nat.reduceAdd, Option.toList, List.cons_append, List.nil_append, cf8_0, cf8_2, cf8_9, cf9_16]
                        repeat (simp only [cx_8w0 hw, cx_8o, cx_83 hw, cx_84 hw, hQ, hs, pk_us, pk_un, ne_eq, Nat.reduceEqDiff, not_false_eq_true, hE.2.1, cx_8n (show ¬ (67:Nat) = 68 by decide), cx_f67 hw, hT, nI_clamp (show ck_sk T n S1.1 < 2 ^ 31 by omega), nI_1, ks_eq, ks_ss]; try dsimp only [kx_wp, kx_step, kx_lI, kx_lL, kx_lA, kx_gl, kx_pI, kx_pL, kx_pR, kx_pA, kx_pV, kx_s1, kx_s2, kx_sl, kx_pre, kx_c2, kx_pl, kx_cmp, kx_oF, kx_eqN, kx_nil, kx_c1, kx_ft, kx_aI, kx_aL, kx_aR, kx_ln, Nat.reduceAdd, Option.toList, List.cons_append, List.nil_append, cf8_0, cf8_2, cf8_9, cf9_16])
                        repeat' apply And.intro
                        all_goals try (first | with_reducible assumption | (with_reducible refine ck_nzI ?_; simp; done) | (with_reducible refine ck_nzL ?_; simp; done) | (with_reducible refine vp_in_nI ?_ ?_ <;> first | omega | decide) | (with_reducible refine Nat.le_of_ble_eq_true ?_; rfl) | omega | exact Or.inl trivial | exact Or.inr trivial | exact Or.inl rfl | exact Or.inr rfl)
                        · intro zc108
                          first | exact absurd rfl zc108 | exact absurd zc108 (by decide) | exact absurd (by decide) zc108 | (exfalso; first | exact absurd ((nI_leI (a := 400) (b := i) (by omega) (by omega)).mp zc15) (by omega) | exact zc59 hTs | exact zc59 (by rw [hTs]; decide) | exact zc79 hTs | exact zc79 (by rw [hTs]; decide)) | (exfalso; simp_all; done)
                        · intro zc108
                          have ze108 := zc108
                          refine hB bX8_readProduct_111 _ _ _ _ _ _ _ kX8_readProduct_111 ?_
                          dsimp only [bX8_readProduct_111, kx_wp, kx_step, kx_lI, kx_lL, kx_lA, kx_gl, kx_pI, kx_pL, kx_pR, kx_pA, kx_pV, kx_s1, kx_s2, kx_sl, kx_pre, kx_c2, kx_pl, kx_cmp, kx_oF, kx_eqN, kx_nil, kx_c1, kx_ft, kx_aI, kx_aL, kx_aR, kx_ln, Nat.reduceAdd, Option.toList, List.cons_append, List.nil_append, cf8_0, cf8_2, cf8_9, cf9_16]
                          repeat (simp only [cx_8w0 hw, cx_8o, cx_83 hw, cx_84 hw, hQ, hs, pk_us, pk_un, ne_eq, Nat.reduceEqDiff, not_false_eq_true, hE.2.1, cx_8n (show ¬ (67:Nat) = 68 by decide), cx_f67 hw, hT, nI_clamp (show ck_sk T n S1.1 < 2 ^ 31 by omega), nI_1, ks_eq, ks_ss]; try dsimp only [kx_wp, kx_step, kx_lI, kx_lL, kx_lA, kx_gl, kx_pI, kx_pL, kx_pR, kx_pA, kx_pV, kx_s1, kx_s2, kx_sl, kx_pre, kx_c2, kx_pl, kx_cmp, kx_oF, kx_eqN, kx_nil, kx_c1, kx_ft, kx_aI, kx_aL, kx_aR, kx_ln, Nat.reduceAdd, Option.toList, List.cons_append, List.nil_append, cf8_0, cf8_2, cf8_9, cf9_16])
                          repeat' apply And.intro
                          all_goals try (first | with_reducible assumption | (with_reducible refine ck_nzI ?_; simp; done) | (with_reducible refine ck_nzL ?_; simp; done) | (with_reducible refine vp_in_nI ?_ ?_ <;> first | omega | decide) | (with_reducible refine Nat.le_of_ble_eq_true ?_; rfl) | omega | exact Or.inl trivial | exact Or.inr trivial | exact Or.inl rfl | exact Or.inr rfl)
                          refine hB bX8_readProduct_116 _ _ _ _ _ _ _ kX8_readProduct_116 ?_
                          dsimp only [bX8_readProduct_116, kx_wp, kx_step, kx_lI, kx_lL, kx_lA, kx_gl, kx_pI, kx_pL, kx_pR, kx_pA, kx_pV, kx_s1, kx_s2, kx_sl, kx_pre, kx_c2, kx_pl, kx_cmp, kx_oF, kx_eqN, kx_nil, kx_c1, kx_ft, kx_aI, kx_aL, kx_aR, kx_ln, Nat.reduceAdd, Option.toList, List.cons_append, List.nil_append, cf8_0, cf8_2, cf8_9, cf9_16]
                          repeat (simp only [cx_8w0 hw, cx_8o, cx_83 hw, cx_84 hw, hQ, hs, pk_us, pk_un, ne_eq, Nat.reduceEqDiff, not_false_eq_true, hE.2.1, cx_8n (show ¬ (67:Nat) = 68 by decide), cx_f67 hw, hT, nI_clamp (show ck_sk T n S1.1 < 2 ^ 31 by omega), nI_1, ks_eq, ks_ss]; try dsimp only [kx_wp, kx_step, kx_lI, kx_lL, kx_lA, kx_gl, kx_pI, kx_pL, kx_pR, kx_pA, kx_pV, kx_s1, kx_s2, kx_sl, kx_pre, kx_c2, kx_pl, kx_cmp, kx_oF, kx_eqN, kx_nil, kx_c1, kx_ft, kx_aI, kx_aL, kx_aR, kx_ln, Nat.reduceAdd, Option.toList, List.cons_append, List.nil_append, cf8_0, cf8_2, cf8_9, cf9_16])
                          repeat' apply And.intro
                          all_goals try (first | with_reducible assumption | (with_reducible refine ck_nzI ?_; simp; done) | (with_reducible refine ck_nzL ?_; simp; done) | (with_reducible refine vp_in_nI ?_ ?_ <;> first | omega | decide) | (with_reducible refine Nat.le_of_ble_eq_true ?_; rfl) | omega | exact Or.inl trivial | exact Or.inr trivial | exact Or.inl rfl | exact Or.inr rfl)
                          have zi := ih (ck_emR 8 0 (U (ck_sk T n S1.1 + 1, S1.2))) F2 _ _ (i + 1) (some (.int (-8))) (fun _ => (hE3 hg9).em (Or.inr ⟨8, by decide, by decide, rfl, rfl⟩)) (fun q => absurd hg9 q) (ck_sl_0 o1.1) (ck_lv_g o1 hlv1) (fun _ => by have := hnn hg; omega) (by omega) he9
                          rw [cx_b1 (show (ck_emR 8 0 (U (ck_sk T n S1.1 + 1, S1.2))).2.1 = -1 from hg9)] at zi
                          exact zi
                    · intro zc79
                      first | exact absurd rfl zc79 | exact absurd zc79 (by decide) | exact absurd (by decide) zc79 | (exfalso; first | exact absurd ((nI_leI (a := 400) (b := i) (by omega) (by omega)).mp zc15) (by omega) | exact zc59 hTs | exact zc59 (by rw [hTs]; decide) | exact zc79 hTs | exact zc79 (by rw [hTs]; decide)) | (exfalso; simp_all; done)
                  · intro zc59
                    first | exact absurd rfl zc59 | exact absurd zc59 (by decide) | exact absurd (by decide) zc59 | (exfalso; first | exact absurd ((nI_leI (a := 400) (b := i) (by omega) (by omega)).mp zc15) (by omega) | exact zc59 hTs | exact zc59 (by rw [hTs]; decide) | exact zc79 hTs | exact zc79 (by rw [hTs]; decide)) | (exfalso; simp_all; done)
      · rw [cx_b1 hg]
        have hle := ck_sk_le T hsl1.1
        have hE := hE hg
        have hTf : cx_fW Q w Fo1 st1 67 = kI 0 400 T := (cx_f67 hw).trans hT
        have hlt : ck_sk T n S1.1 < n := cx_nx_lt hop (by decide)
        have hTs : T (ck_sk T n S1.1) = 37 := (if_pos hlt).symm.trans hop
        have hn42 := ct_X8_nextIs_f (l := l) (G := G) (sz := sz) (x := .ref w) hTf hE.1 hn hE.2.1 hle.2 (ch := 42) (by decide) (show ¬ ck_hcx T n S1.1 = 42 by rw [hop]; decide)
        have hn47 := ct_X8_nextIs_f (l := l) (G := G) (sz := sz) (x := .ref w) hTf hE.1 hn hE.2.1 hle.2 (ch := 47) (by decide) (show ¬ ck_hcx T n S1.1 = 47 by rw [hop]; decide)
        have hn37 := ct_X8_nextIs_t (l := l) (G := G) (sz := sz) (x := .ref w) hTf hE.1 hn hE.2.1 hle.2 (ch := 37) (by decide) hop
        have hE2 : cx_E T n (ck_sk T n S1.1 + 1, S1.2) (upd F1 2 (nI (ck_sk T n (ck_sk T n S1.1 + 1)))) Fo1 st1 := ⟨hE.1, rfl, hE.2.2.1, hE.2.2.2.1, hE.2.2.2.2.1, hE.2.2.2.2.2.1, hE.2.2.2.2.2.2⟩
        have hslA : ck_sl n 0 (ck_sk T n S1.1 + 1, S1.2) := ⟨hlt, fun q => Nat.le_trans (hsl1.2 hg) (Nat.le_succ_of_le hle.1)⟩
        have hlvA : ck_lv N (ck_sk T n S1.1 + 1, S1.2) := fun q => hlv1 hg
        obtain ⟨o1, o2⟩ := ck_one_g (T := T) (w := 8) hUg hsl1 hg (show ¬ ck_hcx T n S1.1 = 0 by rw [hop]; decide)
        have hUA := hUg 1 (ck_sk T n S1.1 + 1, S1.2) ⟨hlt, fun q => by have := hsl1.2 hg; show S1.2.2.2.2.1 + 1 ≤ ck_sk T n S1.1 + 1; omega⟩
        have he9 : (if S1.2.1 = -1 ∧ (ck_hcx T n S1.1 = 42 ∨ ck_hcx T n S1.1 = 47 ∨ ck_hcx T n S1.1 = 37) then ck_lpt T n U n9 (ck_one T n U (if ck_hcx T n S1.1 = 42 then 6 else if ck_hcx T n S1.1 = 47 then 7 else 8) S1) else ck_ex T n S1) = ck_te T n U S := he9
        rw [if_pos ⟨hg, (fun z => Or.inr <| Or.inr <| z) hop⟩, if_neg (show ¬ ck_hcx T n S1.1 = 42 by rw [hop]; decide), if_neg (show ¬ ck_hcx T n S1.1 = 47 by rw [hop]; decide)] at he9
        have h99 : ck_one T n U 8 S1 = U (ck_sk T n S1.1 + 1, S1.2) := if_neg hg9
        rw [h99] at o1 o2 he9
        have hb9 := cx_b0 hg9
        refine hB bX8_readProduct_7 _ _ _ _ _ _ _ kX8_readProduct_7 ?_
        dsimp only [bX8_readProduct_7, kx_wp, kx_step, kx_lI, kx_lL, kx_lA, kx_gl, kx_pI, kx_pL, kx_pR, kx_pA, kx_pV, kx_s1, kx_s2, kx_sl, kx_pre, kx_c2, kx_pl, kx_cmp, kx_oF, kx_eqN, kx_nil, kx_c1, kx_ft, kx_aI, kx_aL, kx_aR, kx_ln, Nat.reduceAdd, Option.toList, List.cons_append, List.nil_append, cf8_0, cf8_2, cf8_9, cf9_16]
        repeat (simp only [cx_8w0 hw, cx_8o, cx_83 hw, cx_84 hw, hQ, hs, pk_us, pk_un, ne_eq, Nat.reduceEqDiff, not_false_eq_true, hE.2.1, cx_8n (show ¬ (67:Nat) = 68 by decide), cx_f67 hw, hT, nI_clamp (show ck_sk T n S1.1 < 2 ^ 31 by omega), nI_1, ks_eq, ks_ss]; try dsimp only [kx_wp, kx_step, kx_lI, kx_lL, kx_lA, kx_gl, kx_pI, kx_pL, kx_pR, kx_pA, kx_pV, kx_s1, kx_s2, kx_sl, kx_pre, kx_c2, kx_pl, kx_cmp, kx_oF, kx_eqN, kx_nil, kx_c1, kx_ft, kx_aI, kx_aL, kx_aR, kx_ln, Nat.reduceAdd, Option.toList, List.cons_append, List.nil_append, cf8_0, cf8_2, cf8_9, cf9_16])
        repeat' apply And.intro
        all_goals try (first | with_reducible assumption | (with_reducible refine ck_nzI ?_; simp; done) | (with_reducible refine ck_nzL ?_; simp; done) | (with_reducible refine vp_in_nI ?_ ?_ <;> first | omega | decide) | (with_reducible refine Nat.le_of_ble_eq_true ?_; rfl) | omega | exact Or.inl trivial | exact Or.inr trivial | exact Or.inl rfl | exact Or.inr rfl)
        · intro zc8
          first | exact absurd rfl zc8 | exact absurd zc8 (by decide) | exact absurd (by decide) zc8 | (exfalso; first | exact absurd ((nI_leI (a := 400) (b := i) (by omega) (by omega)).mp zc15) (by omega) | exact zc59 hTs | exact zc59 (by rw [hTs]; decide) | exact zc79 hTs | exact zc79 (by rw [hTs]; decide)) | (exfalso; simp_all; done)
        · intro zc8
          have ze8 := zc8
          refine hB bX8_readProduct_11 _ _ _ _ _ _ _ kX8_readProduct_11 ?_
          dsimp only [bX8_readProduct_11, kx_wp, kx_step, kx_lI, kx_lL, kx_lA, kx_gl, kx_pI, kx_pL, kx_pR, kx_pA, kx_pV, kx_s1, kx_s2, kx_sl, kx_pre, kx_c2, kx_pl, kx_cmp, kx_oF, kx_eqN, kx_nil, kx_c1, kx_ft, kx_aI, kx_aL, kx_aR, kx_ln, Nat.reduceAdd, Option.toList, List.cons_append, List.nil_append, cf8_0, cf8_2, cf8_9, cf9_16]
          repeat (simp only [cx_8w0 hw, cx_8o, cx_83 hw, cx_84 hw, hQ, hs, pk_us, pk_un, ne_eq, Nat.reduceEqDiff, not_false_eq_true, hE.2.1, cx_8n (show ¬ (67:Nat) = 68 by decide), cx_f67 hw, hT, nI_clamp (show ck_sk T n S1.1 < 2 ^ 31 by omega), nI_1, ks_eq, ks_ss]; try dsimp only [kx_wp, kx_step, kx_lI, kx_lL, kx_lA, kx_gl, kx_pI, kx_pL, kx_pR, kx_pA, kx_pV, kx_s1, kx_s2, kx_sl, kx_pre, kx_c2, kx_pl, kx_cmp, kx_oF, kx_eqN, kx_nil, kx_c1, kx_ft, kx_aI, kx_aL, kx_aR, kx_ln, Nat.reduceAdd, Option.toList, List.cons_append, List.nil_append, cf8_0, cf8_2, cf8_9, cf9_16])
          repeat' apply And.intro
          all_goals try (first | with_reducible assumption | (with_reducible refine ck_nzI ?_; simp; done) | (with_reducible refine ck_nzL ?_; simp; done) | (with_reducible refine vp_in_nI ?_ ?_ <;> first | omega | decide) | (with_reducible refine Nat.le_of_ble_eq_true ?_; rfl) | omega | exact Or.inl trivial | exact Or.inr trivial | exact Or.inl rfl | exact Or.inr rfl)
          · intro zc15
            first | exact absurd rfl zc15 | exact absurd zc15 (by decide) | exact absurd (by decide) zc15 | (exfalso; first | exact absurd ((nI_leI (a := 400) (b := i) (by omega) (by omega)).mp zc15) (by omega) | exact zc59 hTs | exact zc59 (by rw [hTs]; decide) | exact zc79 hTs | exact zc79 (by rw [hTs]; decide)) | (exfalso; simp_all; done)
          · intro zc15
            with_reducible first | have ze15 := Int32.not_le.mp zc15 | have ze15 := zc15
            refine hB bX8_readProduct_18 _ _ _ _ _ _ _ kX8_readProduct_18 ?_
            dsimp only [bX8_readProduct_18, kx_wp, kx_step, kx_lI, kx_lL, kx_lA, kx_gl, kx_pI, kx_pL, kx_pR, kx_pA, kx_pV, kx_s1, kx_s2, kx_sl, kx_pre, kx_c2, kx_pl, kx_cmp, kx_oF, kx_eqN, kx_nil, kx_c1, kx_ft, kx_aI, kx_aL, kx_aR, kx_ln, Nat.reduceAdd, Option.toList, List.cons_append, List.nil_append, cf8_0, cf8_2, cf8_9, cf9_16]
            repeat (simp only [cx_8w0 hw, cx_8o, cx_83 hw, cx_84 hw, hQ, hs, pk_us, pk_un, ne_eq, Nat.reduceEqDiff, not_false_eq_true, hE.2.1, cx_8n (show ¬ (67:Nat) = 68 by decide), cx_f67 hw, hT, nI_clamp (show ck_sk T n S1.1 < 2 ^ 31 by omega), nI_1, ks_eq, ks_ss]; try dsimp only [kx_wp, kx_step, kx_lI, kx_lL, kx_lA, kx_gl, kx_pI, kx_pL, kx_pR, kx_pA, kx_pV, kx_s1, kx_s2, kx_sl, kx_pre, kx_c2, kx_pl, kx_cmp, kx_oF, kx_eqN, kx_nil, kx_c1, kx_ft, kx_aI, kx_aL, kx_aR, kx_ln, Nat.reduceAdd, Option.toList, List.cons_append, List.nil_append, cf8_0, cf8_2, cf8_9, cf9_16])
            repeat' apply And.intro
            all_goals try (first | with_reducible assumption | (with_reducible refine ck_nzI ?_; simp; done) | (with_reducible refine ck_nzL ?_; simp; done) | (with_reducible refine vp_in_nI ?_ ?_ <;> first | omega | decide) | (with_reducible refine Nat.le_of_ble_eq_true ?_; rfl) | omega | exact Or.inl trivial | exact Or.inr trivial | exact Or.inl rfl | exact Or.inr rfl)
            refine hC.1 54 _ _ _ _ _ _ _ 8 _ _ _ _ _ _ _ _ _ _ _ _ lX8_54 (hn42) ⟨by decide, rfl⟩ (cx_8o) rfl rfl (Nat.le_of_ble_eq_true rfl) (by first | decide | omega) (by decide) (by omega) (by omega) dX8_readProduct_21 ?_
            refine hB bX8_readProduct_24 _ _ _ _ _ _ _ kX8_readProduct_24 ?_
            dsimp only [bX8_readProduct_24, kx_wp, kx_step, kx_lI, kx_lL, kx_lA, kx_gl, kx_pI, kx_pL, kx_pR, kx_pA, kx_pV, kx_s1, kx_s2, kx_sl, kx_pre, kx_c2, kx_pl, kx_cmp, kx_oF, kx_eqN, kx_nil, kx_c1, kx_ft, kx_aI, kx_aL, kx_aR, kx_ln, Nat.reduceAdd, Option.toList, List.cons_append, List.nil_append, cf8_0, cf8_2, cf8_9, cf9_16]
            repeat (simp only [cx_8w0 hw, cx_8o, cx_83 hw, cx_84 hw, hQ, hs, pk_us, pk_un, ne_eq, Nat.reduceEqDiff, not_false_eq_true, hE.2.1, cx_8n (show ¬ (67:Nat) = 68 by decide), cx_f67 hw, hT, nI_clamp (show ck_sk T n S1.1 < 2 ^ 31 by omega), nI_1, ks_eq, ks_ss]; try dsimp only [kx_wp, kx_step, kx_lI, kx_lL, kx_lA, kx_gl, kx_pI, kx_pL, kx_pR, kx_pA, kx_pV, kx_s1, kx_s2, kx_sl, kx_pre, kx_c2, kx_pl, kx_cmp, kx_oF, kx_eqN, kx_nil, kx_c1, kx_ft, kx_aI, kx_aL, kx_aR, kx_ln, Nat.reduceAdd, Option.toList, List.cons_append, List.nil_append, cf8_0, cf8_2, cf8_9, cf9_16])
            repeat' apply And.intro
            all_goals try (first | with_reducible assumption | (with_reducible refine ck_nzI ?_; simp; done) | (with_reducible refine ck_nzL ?_; simp; done) | (with_reducible refine vp_in_nI ?_ ?_ <;> first | omega | decide) | (with_reducible refine Nat.le_of_ble_eq_true ?_; rfl) | omega | exact Or.inl trivial | exact Or.inr trivial | exact Or.inl rfl | exact Or.inr rfl)
            · intro zc24
              first | exact absurd rfl zc24 | exact absurd zc24 (by decide) | exact absurd (by decide) zc24 | (exfalso; first | exact absurd ((nI_leI (a := 400) (b := i) (by omega) (by omega)).mp zc15) (by omega) | exact zc59 hTs | exact zc59 (by rw [hTs]; decide) | exact zc79 hTs | exact zc79 (by rw [hTs]; decide)) | (exfalso; simp_all; done)
            · intro zc24
              with_reducible first | have ze24 := Decidable.not_not.mp zc24 | have ze24 := zc24
              refine hB bX8_readProduct_27 _ _ _ _ _ _ _ kX8_readProduct_27 ?_
              dsimp only [bX8_readProduct_27, kx_wp, kx_step, kx_lI, kx_lL, kx_lA, kx_gl, kx_pI, kx_pL, kx_pR, kx_pA, kx_pV, kx_s1, kx_s2, kx_sl, kx_pre, kx_c2, kx_pl, kx_cmp, kx_oF, kx_eqN, kx_nil, kx_c1, kx_ft, kx_aI, kx_aL, kx_aR, kx_ln, Nat.reduceAdd, Option.toList, List.cons_append, List.nil_append, cf8_0, cf8_2, cf8_9, cf9_16]
              repeat (simp only [cx_8w0 hw, cx_8o, cx_83 hw, cx_84 hw, hQ, hs, pk_us, pk_un, ne_eq, Nat.reduceEqDiff, not_false_eq_true, hE.2.1, cx_8n (show ¬ (67:Nat) = 68 by decide), cx_f67 hw, hT, nI_clamp (show ck_sk T n S1.1 < 2 ^ 31 by omega), nI_1, ks_eq, ks_ss]; try dsimp only [kx_wp, kx_step, kx_lI, kx_lL, kx_lA, kx_gl, kx_pI, kx_pL, kx_pR, kx_pA, kx_pV, kx_s1, kx_s2, kx_sl, kx_pre, kx_c2, kx_pl, kx_cmp, kx_oF, kx_eqN, kx_nil, kx_c1, kx_ft, kx_aI, kx_aL, kx_aR, kx_ln, Nat.reduceAdd, Option.toList, List.cons_append, List.nil_append, cf8_0, cf8_2, cf8_9, cf9_16])
              repeat' apply And.intro
              all_goals try (first | with_reducible assumption | (with_reducible refine ck_nzI ?_; simp; done) | (with_reducible refine ck_nzL ?_; simp; done) | (with_reducible refine vp_in_nI ?_ ?_ <;> first | omega | decide) | (with_reducible refine Nat.le_of_ble_eq_true ?_; rfl) | omega | exact Or.inl trivial | exact Or.inr trivial | exact Or.inl rfl | exact Or.inr rfl)
              refine hC.1 54 _ _ _ _ _ _ _ 8 _ _ _ _ _ _ _ _ _ _ _ _ lX8_54 (hn47) ⟨by decide, rfl⟩ (cx_8o) rfl rfl (Nat.le_of_ble_eq_true rfl) (by first | decide | omega) (by decide) (by omega) (by omega) dX8_readProduct_30 ?_
              refine hB bX8_readProduct_33 _ _ _ _ _ _ _ kX8_readProduct_33 ?_
              dsimp only [bX8_readProduct_33, kx_wp, kx_step, kx_lI, kx_lL, kx_lA, kx_gl, kx_pI, kx_pL, kx_pR, kx_pA, kx_pV, kx_s1, kx_s2, kx_sl, kx_pre, kx_c2, kx_pl, kx_cmp, kx_oF, kx_eqN, kx_nil, kx_c1, kx_ft, kx_aI, kx_aL, kx_aR, kx_ln, Nat.reduceAdd, Option.toList, List.cons_append, List.nil_append, cf8_0, cf8_2, cf8_9, cf9_16]
              repeat (simp only [cx_8w0 hw, cx_8o, cx_83 hw, cx_84 hw, hQ, hs, pk_us, pk_un, ne_eq, Nat.reduceEqDiff, not_false_eq_true, hE.2.1, cx_8n (show ¬ (67:Nat) = 68 by decide), cx_f67 hw, hT, nI_clamp (show ck_sk T n S1.1 < 2 ^ 31 by omega), nI_1, ks_eq, ks_ss]; try dsimp only [kx_wp, kx_step, kx_lI, kx_lL, kx_lA, kx_gl, kx_pI, kx_pL, kx_pR, kx_pA, kx_pV, kx_s1, kx_s2, kx_sl, kx_pre, kx_c2, kx_pl, kx_cmp, kx_oF, kx_eqN, kx_nil, kx_c1, kx_ft, kx_aI, kx_aL, kx_aR, kx_ln, Nat.reduceAdd, Option.toList, List.cons_append, List.nil_append, cf8_0, cf8_2, cf8_9, cf9_16])
              repeat' apply And.intro
              all_goals try (first | with_reducible assumption | (with_reducible refine ck_nzI ?_; simp; done) | (with_reducible refine ck_nzL ?_; simp; done) | (with_reducible refine vp_in_nI ?_ ?_ <;> first | omega | decide) | (with_reducible refine Nat.le_of_ble_eq_true ?_; rfl) | omega | exact Or.inl trivial | exact Or.inr trivial | exact Or.inl rfl | exact Or.inr rfl)
              · intro zc33
                first | exact absurd rfl zc33 | exact absurd zc33 (by decide) | exact absurd (by decide) zc33 | (exfalso; first | exact absurd ((nI_leI (a := 400) (b := i) (by omega) (by omega)).mp zc15) (by omega) | exact zc59 hTs | exact zc59 (by rw [hTs]; decide) | exact zc79 hTs | exact zc79 (by rw [hTs]; decide)) | (exfalso; simp_all; done)
              · intro zc33
                with_reducible first | have ze33 := Decidable.not_not.mp zc33 | have ze33 := zc33
                refine hB bX8_readProduct_36 _ _ _ _ _ _ _ kX8_readProduct_36 ?_
                dsimp only [bX8_readProduct_36, kx_wp, kx_step, kx_lI, kx_lL, kx_lA, kx_gl, kx_pI, kx_pL, kx_pR, kx_pA, kx_pV, kx_s1, kx_s2, kx_sl, kx_pre, kx_c2, kx_pl, kx_cmp, kx_oF, kx_eqN, kx_nil, kx_c1, kx_ft, kx_aI, kx_aL, kx_aR, kx_ln, Nat.reduceAdd, Option.toList, List.cons_append, List.nil_append, cf8_0, cf8_2, cf8_9, cf9_16]
                repeat (simp only [cx_8w0 hw, cx_8o, cx_83 hw, cx_84 hw, hQ, hs, pk_us, pk_un, ne_eq, Nat.reduceEqDiff, not_false_eq_true, hE.2.1, cx_8n (show ¬ (67:Nat) = 68 by decide), cx_f67 hw, hT, nI_clamp (show ck_sk T n S1.1 < 2 ^ 31 by omega), nI_1, ks_eq, ks_ss]; try dsimp only [kx_wp, kx_step, kx_lI, kx_lL, kx_lA, kx_gl, kx_pI, kx_pL, kx_pR, kx_pA, kx_pV, kx_s1, kx_s2, kx_sl, kx_pre, kx_c2, kx_pl, kx_cmp, kx_oF, kx_eqN, kx_nil, kx_c1, kx_ft, kx_aI, kx_aL, kx_aR, kx_ln, Nat.reduceAdd, Option.toList, List.cons_append, List.nil_append, cf8_0, cf8_2, cf8_9, cf9_16])
                repeat' apply And.intro
                all_goals try (first | with_reducible assumption | (with_reducible refine ck_nzI ?_; simp; done) | (with_reducible refine ck_nzL ?_; simp; done) | (with_reducible refine vp_in_nI ?_ ?_ <;> first | omega | decide) | (with_reducible refine Nat.le_of_ble_eq_true ?_; rfl) | omega | exact Or.inl trivial | exact Or.inr trivial | exact Or.inl rfl | exact Or.inr rfl)
                refine hC.1 54 _ _ _ _ _ _ _ 8 _ _ _ _ _ _ _ _ _ _ _ _ lX8_54 (hn37) ⟨by decide, rfl⟩ (cx_8o) rfl rfl (Nat.le_of_ble_eq_true rfl) (by first | decide | omega) (by decide) (by omega) (by omega) dX8_readProduct_39 ?_
                refine hB bX8_readProduct_42 _ _ _ _ _ _ _ kX8_readProduct_42 ?_
                dsimp only [bX8_readProduct_42, kx_wp, kx_step, kx_lI, kx_lL, kx_lA, kx_gl, kx_pI, kx_pL, kx_pR, kx_pA, kx_pV, kx_s1, kx_s2, kx_sl, kx_pre, kx_c2, kx_pl, kx_cmp, kx_oF, kx_eqN, kx_nil, kx_c1, kx_ft, kx_aI, kx_aL, kx_aR, kx_ln, Nat.reduceAdd, Option.toList, List.cons_append, List.nil_append, cf8_0, cf8_2, cf8_9, cf9_16]
                repeat (simp only [cx_8w0 hw, cx_8o, cx_83 hw, cx_84 hw, hQ, hs, pk_us, pk_un, ne_eq, Nat.reduceEqDiff, not_false_eq_true, hE.2.1, cx_8n (show ¬ (67:Nat) = 68 by decide), cx_f67 hw, hT, nI_clamp (show ck_sk T n S1.1 < 2 ^ 31 by omega), nI_1, ks_eq, ks_ss]; try dsimp only [kx_wp, kx_step, kx_lI, kx_lL, kx_lA, kx_gl, kx_pI, kx_pL, kx_pR, kx_pA, kx_pV, kx_s1, kx_s2, kx_sl, kx_pre, kx_c2, kx_pl, kx_cmp, kx_oF, kx_eqN, kx_nil, kx_c1, kx_ft, kx_aI, kx_aL, kx_aR, kx_ln, Nat.reduceAdd, Option.toList, List.cons_append, List.nil_append, cf8_0, cf8_2, cf8_9, cf9_16])
                repeat' apply And.intro
                all_goals try (first | with_reducible assumption | (with_reducible refine ck_nzI ?_; simp; done) | (with_reducible refine ck_nzL ?_; simp; done) | (with_reducible refine vp_in_nI ?_ ?_ <;> first | omega | decide) | (with_reducible refine Nat.le_of_ble_eq_true ?_; rfl) | omega | exact Or.inl trivial | exact Or.inr trivial | exact Or.inl rfl | exact Or.inr rfl)
                · intro zc42
                  first | exact absurd rfl zc42 | exact absurd zc42 (by decide) | exact absurd (by decide) zc42 | (exfalso; first | exact absurd ((nI_leI (a := 400) (b := i) (by omega) (by omega)).mp zc15) (by omega) | exact zc59 hTs | exact zc59 (by rw [hTs]; decide) | exact zc79 hTs | exact zc79 (by rw [hTs]; decide)) | (exfalso; simp_all; done)
                · intro zc42
                  have ze42 := zc42
                  refine hB bX8_readProduct_45 _ _ _ _ _ _ _ kX8_readProduct_45 ?_
                  dsimp only [bX8_readProduct_45, kx_wp, kx_step, kx_lI, kx_lL, kx_lA, kx_gl, kx_pI, kx_pL, kx_pR, kx_pA, kx_pV, kx_s1, kx_s2, kx_sl, kx_pre, kx_c2, kx_pl, kx_cmp, kx_oF, kx_eqN, kx_nil, kx_c1, kx_ft, kx_aI, kx_aL, kx_aR, kx_ln, Nat.reduceAdd, Option.toList, List.cons_append, List.nil_append, cf8_0, cf8_2, cf8_9, cf9_16]
                  repeat (simp only [cx_8w0 hw, cx_8o, cx_83 hw, cx_84 hw, hQ, hs, pk_us, pk_un, ne_eq, Nat.reduceEqDiff, not_false_eq_true, hE.2.1, cx_8n (show ¬ (67:Nat) = 68 by decide), cx_f67 hw, hT, nI_clamp (show ck_sk T n S1.1 < 2 ^ 31 by omega), nI_1, ks_eq, ks_ss]; try dsimp only [kx_wp, kx_step, kx_lI, kx_lL, kx_lA, kx_gl, kx_pI, kx_pL, kx_pR, kx_pA, kx_pV, kx_s1, kx_s2, kx_sl, kx_pre, kx_c2, kx_pl, kx_cmp, kx_oF, kx_eqN, kx_nil, kx_c1, kx_ft, kx_aI, kx_aL, kx_aR, kx_ln, Nat.reduceAdd, Option.toList, List.cons_append, List.nil_append, cf8_0, cf8_2, cf8_9, cf9_16])
                  repeat' apply And.intro
                  all_goals try (first | with_reducible assumption | (with_reducible refine ck_nzI ?_; simp; done) | (with_reducible refine ck_nzL ?_; simp; done) | (with_reducible refine vp_in_nI ?_ ?_ <;> first | omega | decide) | (with_reducible refine Nat.le_of_ble_eq_true ?_; rfl) | omega | exact Or.inl trivial | exact Or.inr trivial | exact Or.inl rfl | exact Or.inr rfl)
                  · intro zc59
                    have ze59 := zc59
                    refine hB bX8_readProduct_68 _ _ _ _ _ _ _ kX8_readProduct_68 ?_
                    dsimp only [bX8_readProduct_68, kx_wp, kx_step, kx_lI, kx_lL, kx_lA, kx_gl, kx_pI, kx_pL, kx_pR, kx_pA, kx_pV, kx_s1, kx_s2, kx_sl, kx_pre, kx_c2, kx_pl, kx_cmp, kx_oF, kx_eqN, kx_nil, kx_c1, kx_ft, kx_aI, kx_aL, kx_aR, kx_ln, Nat.reduceAdd, Option.toList, List.cons_append, List.nil_append, cf8_0, cf8_2, cf8_9, cf9_16]
                    repeat (simp only [cx_8w0 hw, cx_8o, cx_83 hw, cx_84 hw, hQ, hs, pk_us, pk_un, ne_eq, Nat.reduceEqDiff, not_false_eq_true, hE.2.1, cx_8n (show ¬ (67:Nat) = 68 by decide), cx_f67 hw, hT, nI_clamp (show ck_sk T n S1.1 < 2 ^ 31 by omega), nI_1, ks_eq, ks_ss]; try dsimp only [kx_wp, kx_step, kx_lI, kx_lL, kx_lA, kx_gl, kx_pI, kx_pL, kx_pR, kx_pA, kx_pV, kx_s1, kx_s2, kx_sl, kx_pre, kx_c2, kx_pl, kx_cmp, kx_oF, kx_eqN, kx_nil, kx_c1, kx_ft, kx_aI, kx_aL, kx_aR, kx_ln, Nat.reduceAdd, Option.toList, List.cons_append, List.nil_append, cf8_0, cf8_2, cf8_9, cf9_16])
                    repeat' apply And.intro
                    all_goals try (first | with_reducible assumption | (with_reducible refine ck_nzI ?_; simp; done) | (with_reducible refine ck_nzL ?_; simp; done) | (with_reducible refine vp_in_nI ?_ ?_ <;> first | omega | decide) | (with_reducible refine Nat.le_of_ble_eq_true ?_; rfl) | omega | exact Or.inl trivial | exact Or.inr trivial | exact Or.inl rfl | exact Or.inr rfl)
                    · intro zc79
                      have ze79 := zc79
                      refine hB bX8_readProduct_85 _ _ _ _ _ _ _ kX8_readProduct_85 ?_
                      dsimp only [bX8_readProduct_85, kx_wp, kx_step, kx_lI, kx_lL, kx_lA, kx_gl, kx_pI, kx_pL, kx_pR, kx_pA, kx_pV, kx_s1, kx_s2, kx_sl, kx_pre, kx_c2, kx_pl, kx_cmp, kx_oF, kx_eqN, kx_nil, kx_c1, kx_ft, kx_aI, kx_aL, kx_aR, kx_ln, Nat.reduceAdd, Option.toList, List.cons_append, List.nil_append, cf8_0, cf8_2, cf8_9, cf9_16]
                      repeat (simp only [cx_8w0 hw, cx_8o, cx_83 hw, cx_84 hw, hQ, hs, pk_us, pk_un, ne_eq, Nat.reduceEqDiff, not_false_eq_true, hE.2.1, cx_8n (show ¬ (67:Nat) = 68 by decide), cx_f67 hw, hT, nI_clamp (show ck_sk T n S1.1 < 2 ^ 31 by omega), nI_1, ks_eq, ks_ss]; try dsimp only [kx_wp, kx_step, kx_lI, kx_lL, kx_lA, kx_gl, kx_pI, kx_pL, kx_pR, kx_pA, kx_pV, kx_s1, kx_s2, kx_sl, kx_pre, kx_c2, kx_pl, kx_cmp, kx_oF, kx_eqN, kx_nil, kx_c1, kx_ft, kx_aI, kx_aL, kx_aR, kx_ln, Nat.reduceAdd, Option.toList, List.cons_append, List.nil_append, cf8_0, cf8_2, cf8_9, cf9_16])
                      repeat' apply And.intro
                      all_goals try (first | with_reducible assumption | (with_reducible refine ck_nzI ?_; simp; done) | (with_reducible refine ck_nzL ?_; simp; done) | (with_reducible refine vp_in_nI ?_ ?_ <;> first | omega | decide) | (with_reducible refine Nat.le_of_ble_eq_true ?_; rfl) | omega | exact Or.inl trivial | exact Or.inr trivial | exact Or.inl rfl | exact Or.inr rfl)
                      refine hC.1 46 _ _ _ _ _ _ _ 8 _ _ _ _ _ _ _ _ _ _ _ _ lX8_46 (ct_X8_skip1 l G (x := .ref w) hTf hE.1 hn hE.2.1 hlt) ⟨by decide, rfl⟩ (cx_8o) rfl rfl (Nat.le_of_ble_eq_true rfl) (by first | decide | omega) (by decide) (by omega) (by omega) dX8_readProduct_87 ?_
                      dsimp only [Option.toList, List.cons_append, List.nil_append]
                      refine hB bX8_readProduct_90 _ _ _ _ _ _ _ kX8_readProduct_90 ?_
                      dsimp only [bX8_readProduct_90, kx_wp, kx_step, kx_lI, kx_lL, kx_lA, kx_gl, kx_pI, kx_pL, kx_pR, kx_pA, kx_pV, kx_s1, kx_s2, kx_sl, kx_pre, kx_c2, kx_pl, kx_cmp, kx_oF, kx_eqN, kx_nil, kx_c1, kx_ft, kx_aI, kx_aL, kx_aR, kx_ln, Nat.reduceAdd, Option.toList, List.cons_append, List.nil_append, cf8_0, cf8_2, cf8_9, cf9_16]
                      repeat (simp only [cx_8w0 hw, cx_8o, cx_83 hw, cx_84 hw, hQ, hs, pk_us, pk_un, ne_eq, Nat.reduceEqDiff, not_false_eq_true, hE.2.1, cx_8n (show ¬ (67:Nat) = 68 by decide), cx_f67 hw, hT, nI_clamp (show ck_sk T n S1.1 < 2 ^ 31 by omega), nI_1, ks_eq, ks_ss]; try dsimp only [kx_wp, kx_step, kx_lI, kx_lL, kx_lA, kx_gl, kx_pI, kx_pL, kx_pR, kx_pA, kx_pV, kx_s1, kx_s2, kx_sl, kx_pre, kx_c2, kx_pl, kx_cmp, kx_oF, kx_eqN, kx_nil, kx_c1, kx_ft, kx_aI, kx_aL, kx_aR, kx_ln, Nat.reduceAdd, Option.toList, List.cons_append, List.nil_append, cf8_0, cf8_2, cf8_9, cf9_16])
                      repeat' apply And.intro
                      all_goals try (first | with_reducible assumption | (with_reducible refine ck_nzI ?_; simp; done) | (with_reducible refine ck_nzL ?_; simp; done) | (with_reducible refine vp_in_nI ?_ ?_ <;> first | omega | decide) | (with_reducible refine Nat.le_of_ble_eq_true ?_; rfl) | omega | exact Or.inl trivial | exact Or.inr trivial | exact Or.inl rfl | exact Or.inr rfl)
                      refine hN.1 212 _ _ _ _ _ _ _ 8 _ _ _ _ _ _ _ _ _ _ lX8_212 (hU (ck_sk T n S1.1 + 1, S1.2) hg hslA hlvA _ _ _ hE2) ⟨by decide, rfl⟩ (cx_8o) rfl rfl (Nat.le_of_ble_eq_true rfl) (by omega) (by decide) (by omega) (by omega) dX8_readProduct_91 ?_
                      rintro r2 P2 s2 ⟨F2, Fo2, st2, rfl, rfl, rfl, hE3, hX3⟩
                      rw [hb9]
                      dsimp only [Option.toList, List.cons_append, List.nil_append]
                      refine hB bX8_readProduct_94 _ _ _ _ _ _ _ kX8_readProduct_94 ?_
                      dsimp only [bX8_readProduct_94, kx_wp, kx_step, kx_lI, kx_lL, kx_lA, kx_gl, kx_pI, kx_pL, kx_pR, kx_pA, kx_pV, kx_s1, kx_s2, kx_sl, kx_pre, kx_c2, kx_pl, kx_cmp, kx_oF, kx_eqN, kx_nil, kx_c1, kx_ft, kx_aI, kx_aL, kx_aR, kx_ln, Nat.reduceAdd, Option.toList, List.cons_append, List.nil_append, cf8_0, cf8_2, cf8_9, cf9_16]
                      repeat (simp only [cx_8w0 hw, cx_8o, cx_83 hw, cx_84 hw, hQ, hs, pk_us, pk_un, ne_eq, Nat.reduceEqDiff, not_false_eq_true, hE.2.1, cx_8n (show ¬ (67:Nat) = 68 by decide), cx_f67 hw, hT, nI_clamp (show ck_sk T n S1.1 < 2 ^ 31 by omega), nI_1, ks_eq, ks_ss]; try dsimp only [kx_wp, kx_step, kx_lI, kx_lL, kx_lA, kx_gl, kx_pI, kx_pL, kx_pR, kx_pA, kx_pV, kx_s1, kx_s2, kx_sl, kx_pre, kx_c2, kx_pl, kx_cmp, kx_oF, kx_eqN, kx_nil, kx_c1, kx_ft, kx_aI, kx_aL, kx_aR, kx_ln, Nat.reduceAdd, Option.toList, List.cons_append, List.nil_append, cf8_0, cf8_2, cf8_9, cf9_16])
                      repeat' apply And.intro
                      all_goals try (first | with_reducible assumption | (with_reducible refine ck_nzI ?_; simp; done) | (with_reducible refine ck_nzL ?_; simp; done) | (with_reducible refine vp_in_nI ?_ ?_ <;> first | omega | decide) | (with_reducible refine Nat.le_of_ble_eq_true ?_; rfl) | omega | exact Or.inl trivial | exact Or.inr trivial | exact Or.inl rfl | exact Or.inr rfl)
                      · intro zc94
                        have ze94 := zc94
                        refine hB bX8_readProduct_115 _ _ _ _ _ _ _ kX8_readProduct_115 ?_
                        dsimp only [bX8_readProduct_115, kx_wp, kx_step, kx_lI, kx_lL, kx_lA, kx_gl, kx_pI, kx_pL, kx_pR, kx_pA, kx_pV, kx_s1, kx_s2, kx_sl, kx_pre, kx_c2, kx_pl, kx_cmp, kx_oF, kx_eqN, kx_nil, kx_c1, kx_ft, kx_aI, kx_aL, kx_aR, kx_ln, Nat.reduceAdd, Option.toList, List.cons_append, List.nil_append, cf8_0, cf8_2, cf8_9, cf9_16]
                        repeat (simp only [cx_8w0 hw, cx_8o, cx_83 hw, cx_84 hw, hQ, hs, pk_us, pk_un, ne_eq, Nat.reduceEqDiff, not_false_eq_true, hE.2.1, cx_8n (show ¬ (67:Nat) = 68 by decide), cx_f67 hw, hT, nI_clamp (show ck_sk T n S1.1 < 2 ^ 31 by omega), nI_1, ks_eq, ks_ss]; try dsimp only [kx_wp, kx_step, kx_lI, kx_lL, kx_lA, kx_gl, kx_pI, kx_pL, kx_pR, kx_pA, kx_pV, kx_s1, kx_s2, kx_sl, kx_pre, kx_c2, kx_pl, kx_cmp, kx_oF, kx_eqN, kx_nil, kx_c1, kx_ft, kx_aI, kx_aL, kx_aR, kx_ln, Nat.reduceAdd, Option.toList, List.cons_append, List.nil_append, cf8_0, cf8_2, cf8_9, cf9_16])
                        repeat' apply And.intro
                        all_goals try (first | with_reducible assumption | (with_reducible refine ck_nzI ?_; simp; done) | (with_reducible refine ck_nzL ?_; simp; done) | (with_reducible refine vp_in_nI ?_ ?_ <;> first | omega | decide) | (with_reducible refine Nat.le_of_ble_eq_true ?_; rfl) | omega | exact Or.inl trivial | exact Or.inr trivial | exact Or.inl rfl | exact Or.inr rfl)
                        refine hB bX8_readProduct_116 _ _ _ _ _ _ _ kX8_readProduct_116 ?_
                        dsimp only [bX8_readProduct_116, kx_wp, kx_step, kx_lI, kx_lL, kx_lA, kx_gl, kx_pI, kx_pL, kx_pR, kx_pA, kx_pV, kx_s1, kx_s2, kx_sl, kx_pre, kx_c2, kx_pl, kx_cmp, kx_oF, kx_eqN, kx_nil, kx_c1, kx_ft, kx_aI, kx_aL, kx_aR, kx_ln, Nat.reduceAdd, Option.toList, List.cons_append, List.nil_append, cf8_0, cf8_2, cf8_9, cf9_16]
                        repeat (simp only [cx_8w0 hw, cx_8o, cx_83 hw, cx_84 hw, hQ, hs, pk_us, pk_un, ne_eq, Nat.reduceEqDiff, not_false_eq_true, hE.2.1, cx_8n (show ¬ (67:Nat) = 68 by decide), cx_f67 hw, hT, nI_clamp (show ck_sk T n S1.1 < 2 ^ 31 by omega), nI_1, ks_eq, ks_ss]; try dsimp only [kx_wp, kx_step, kx_lI, kx_lL, kx_lA, kx_gl, kx_pI, kx_pL, kx_pR, kx_pA, kx_pV, kx_s1, kx_s2, kx_sl, kx_pre, kx_c2, kx_pl, kx_cmp, kx_oF, kx_eqN, kx_nil, kx_c1, kx_ft, kx_aI, kx_aL, kx_aR, kx_ln, Nat.reduceAdd, Option.toList, List.cons_append, List.nil_append, cf8_0, cf8_2, cf8_9, cf9_16])
                        repeat' apply And.intro
                        all_goals try (first | with_reducible assumption | (with_reducible refine ck_nzI ?_; simp; done) | (with_reducible refine ck_nzL ?_; simp; done) | (with_reducible refine vp_in_nI ?_ ?_ <;> first | omega | decide) | (with_reducible refine Nat.le_of_ble_eq_true ?_; rfl) | omega | exact Or.inl trivial | exact Or.inr trivial | exact Or.inl rfl | exact Or.inr rfl)
                        have zi := ih (U (ck_sk T n S1.1 + 1, S1.2)) F2 Fo2 st2 (i + 1) (some (.int (-8))) (fun q => absurd q hg9) hX3 (ck_sl_0 o1.1) (ck_lv_g o1 hlv1) (fun _ => by have := hnn hg; omega) (by omega) he9
                        rw [hb9] at zi
                        exact zi
                      · intro zc94
                        first | exact absurd rfl zc94 | exact absurd zc94 (by decide) | exact absurd (by decide) zc94 | (exfalso; first | exact absurd ((nI_leI (a := 400) (b := i) (by omega) (by omega)).mp zc15) (by omega) | exact zc59 hTs | exact zc59 (by rw [hTs]; decide) | exact zc79 hTs | exact zc79 (by rw [hTs]; decide)) | (exfalso; simp_all; done)
                    · intro zc79
                      first | exact absurd rfl zc79 | exact absurd zc79 (by decide) | exact absurd (by decide) zc79 | (exfalso; first | exact absurd ((nI_leI (a := 400) (b := i) (by omega) (by omega)).mp zc15) (by omega) | exact zc59 hTs | exact zc59 (by rw [hTs]; decide) | exact zc79 hTs | exact zc79 (by rw [hTs]; decide)) | (exfalso; simp_all; done)
                  · intro zc59
                    first | exact absurd rfl zc59 | exact absurd zc59 (by decide) | exact absurd (by decide) zc59 | (exfalso; first | exact absurd ((nI_leI (a := 400) (b := i) (by omega) (by omega)).mp zc15) (by omega) | exact zc59 hTs | exact zc59 (by rw [hTs]; decide) | exact zc79 hTs | exact zc79 (by rw [hTs]; decide)) | (exfalso; simp_all; done)
  refine hB bX8_readProduct_0 _ _ _ _ _ _ _ kX8_readProduct_0 ?_
  dsimp only [bX8_readProduct_0, kx_wp, kx_step, kx_lI, kx_lL, kx_lA, kx_gl, kx_pI, kx_pL, kx_pR, kx_pA, kx_pV, kx_s1, kx_s2, kx_sl, kx_pre, kx_c2, kx_pl, kx_cmp, kx_oF, kx_eqN, kx_nil, kx_c1, kx_ft, kx_aI, kx_aL, kx_aR, kx_ln, Nat.reduceAdd, Option.toList, List.cons_append, List.nil_append, cf8_0, cf8_2, cf8_9, cf9_16]
  repeat (simp only [cx_8w0 hw, cx_8o, cx_83 hw, cx_84 hw, hQ, hs, pk_us, pk_un, ne_eq, Nat.reduceEqDiff, not_false_eq_true, hE.2.1, cx_8n (show ¬ (67:Nat) = 68 by decide), cx_f67 hw, hT, nI_clamp (show ck_sk T n S1.1 < 2 ^ 31 by omega), nI_1, ks_eq, ks_ss]; try dsimp only [kx_wp, kx_step, kx_lI, kx_lL, kx_lA, kx_gl, kx_pI, kx_pL, kx_pR, kx_pA, kx_pV, kx_s1, kx_s2, kx_sl, kx_pre, kx_c2, kx_pl, kx_cmp, kx_oF, kx_eqN, kx_nil, kx_c1, kx_ft, kx_aI, kx_aL, kx_aR, kx_ln, Nat.reduceAdd, Option.toList, List.cons_append, List.nil_append, cf8_0, cf8_2, cf8_9, cf9_16])
  repeat' apply And.intro
  all_goals try (first | with_reducible assumption | (with_reducible refine ck_nzI ?_; simp; done) | (with_reducible refine ck_nzL ?_; simp; done) | (with_reducible refine vp_in_nI ?_ ?_ <;> first | omega | decide) | (with_reducible refine Nat.le_of_ble_eq_true ?_; rfl) | omega | exact Or.inl trivial | exact Or.inr trivial | exact Or.inl rfl | exact Or.inr rfl)
  refine hN.1 212 _ _ _ _ _ _ _ 8 _ _ _ _ _ _ _ _ _ _ lX8_212 (hU S hs hsl hlv _ _ _ he) ⟨by decide, rfl⟩ (cx_8o) rfl rfl (Nat.le_of_ble_eq_true rfl) (by omega) (by decide) (by omega) (by omega) dX8_readProduct_1 ?_
  rintro r0 P0 s0 ⟨F0, Fo0, st0, rfl, rfl, rfl, hE0, hX0⟩
  dsimp only [Option.toList, List.cons_append, List.nil_append]
  refine hB bX8_readProduct_4 _ _ _ _ _ _ _ kX8_readProduct_4 ?_
  dsimp only [bX8_readProduct_4, kx_wp, kx_step, kx_lI, kx_lL, kx_lA, kx_gl, kx_pI, kx_pL, kx_pR, kx_pA, kx_pV, kx_s1, kx_s2, kx_sl, kx_pre, kx_c2, kx_pl, kx_cmp, kx_oF, kx_eqN, kx_nil, kx_c1, kx_ft, kx_aI, kx_aL, kx_aR, kx_ln, Nat.reduceAdd, Option.toList, List.cons_append, List.nil_append, cf8_0, cf8_2, cf8_9, cf9_16]
  repeat (simp only [cx_8w0 hw, cx_8o, cx_83 hw, cx_84 hw, hQ, hs, pk_us, pk_un, ne_eq, Nat.reduceEqDiff, not_false_eq_true, hE.2.1, cx_8n (show ¬ (67:Nat) = 68 by decide), cx_f67 hw, hT, nI_clamp (show ck_sk T n S1.1 < 2 ^ 31 by omega), nI_1, ks_eq, ks_ss]; try dsimp only [kx_wp, kx_step, kx_lI, kx_lL, kx_lA, kx_gl, kx_pI, kx_pL, kx_pR, kx_pA, kx_pV, kx_s1, kx_s2, kx_sl, kx_pre, kx_c2, kx_pl, kx_cmp, kx_oF, kx_eqN, kx_nil, kx_c1, kx_ft, kx_aI, kx_aL, kx_aR, kx_ln, Nat.reduceAdd, Option.toList, List.cons_append, List.nil_append, cf8_0, cf8_2, cf8_9, cf9_16])
  repeat' apply And.intro
  all_goals try (first | with_reducible assumption | (with_reducible refine ck_nzI ?_; simp; done) | (with_reducible refine ck_nzL ?_; simp; done) | (with_reducible refine vp_in_nI ?_ ?_ <;> first | omega | decide) | (with_reducible refine Nat.le_of_ble_eq_true ?_; rfl) | omega | exact Or.inl trivial | exact Or.inr trivial | exact Or.inl rfl | exact Or.inr rfl)
  exact loop7 (n - (U S).1) (U S) F0 Fo0 st0 0 _ hE0 hX0 (ck_sl_0 hUS.1) (ck_lv_g hUS hlv) (fun _ => Nat.le_refl _) (by have := hUS.1.1; omega) rfl

def bX8_readSum_0 : List kx_O := [(.aload_n 0, 0, 0, 0, .null)]
theorem kX8_readSum_0 : kx_oks kxL_X8 false cX8_readSum 0 bX8_readSum_0 = true := by decide +kernel
def bX8_readSum_4 : List kx_O := [(.istore_n 1, 1, 0, 0, .null), (.iconst 0, 0, 0, 0, .int 0), (.istore_n 2, 2, 0, 0, .null)]
theorem kX8_readSum_4 : kx_oks kxL_X8 false cX8_readSum 4 bX8_readSum_4 = true := by decide +kernel
def bX8_readSum_7 : List kx_O := [(.iload_n 1, 1, 0, 0, .null), (.ifCond .eq 88, 96, 0, 0, .null)]
theorem kX8_readSum_7 : kx_oks kxL_X8 false cX8_readSum 7 bX8_readSum_7 = true := by decide +kernel
def bX8_readSum_11 : List kx_O := [(.iload_n 2, 2, 0, 0, .null), (.sipush 400, 0, 0, 0, .int 400), (.if_icmp .ge 81, 96, 0, 0, .null)]
theorem kX8_readSum_11 : kx_oks kxL_X8 false cX8_readSum 11 bX8_readSum_11 = true := by decide +kernel
def bX8_readSum_18 : List kx_O := [(.aload_n 0, 0, 0, 0, .null), (.bipush 43, 0, 0, 0, .int 43)]
theorem kX8_readSum_18 : kx_oks kxL_X8 false cX8_readSum 18 bX8_readSum_18 = true := by decide +kernel
def bX8_readSum_24 : List kx_O := [(.ifCond .ne 12, 36, 0, 0, .null)]
theorem kX8_readSum_24 : kx_oks kxL_X8 false cX8_readSum 24 bX8_readSum_24 = true := by decide +kernel
def bX8_readSum_27 : List kx_O := [(.aload_n 0, 0, 0, 0, .null), (.bipush 45, 0, 0, 0, .int 45)]
theorem kX8_readSum_27 : kx_oks kxL_X8 false cX8_readSum 27 bX8_readSum_27 = true := by decide +kernel
def bX8_readSum_33 : List kx_O := [(.ifCond .eq 63, 96, 0, 0, .null)]
theorem kX8_readSum_33 : kx_oks kxL_X8 false cX8_readSum 33 bX8_readSum_33 = true := by decide +kernel
def bX8_readSum_36 : List kx_O := [(.aload_n 0, 0, 0, 0, .null), (.getfield 15, 8, 0, 0, .null), (.aload_n 0, 0, 0, 0, .null), (.getfield 28, 8, 2, 0, .null), (.iaload, 0, 0, 0, .null), (.bipush 43, 0, 0, 0, .int 43), (.if_icmp .ne 8, 55, 0, 0, .null)]
theorem kX8_readSum_36 : kx_oks kxL_X8 false cX8_readSum 36 bX8_readSum_36 = true := by decide +kernel
def bX8_readSum_50 : List kx_O := [(.bipush (-4), 0, 0, 0, .int (-4)), (.goto 5, 57, 0, 0, .null)]
theorem kX8_readSum_50 : kx_oks kxL_X8 false cX8_readSum 50 bX8_readSum_50 = true := by decide +kernel
def bX8_readSum_55 : List kx_O := [(.bipush (-5), 0, 0, 0, .int (-5))]
theorem kX8_readSum_55 : kx_oks kxL_X8 false cX8_readSum 55 bX8_readSum_55 = true := by decide +kernel
def bX8_readSum_57 : List kx_O := [(.istore_n 3, 3, 0, 0, .null), (.aload_n 0, 0, 0, 0, .null), (.iconst 1, 0, 0, 0, .int 1)]
theorem kX8_readSum_57 : kx_oks kxL_X8 false cX8_readSum 57 bX8_readSum_57 = true := by decide +kernel
def bX8_readSum_63 : List kx_O := [(.aload_n 0, 0, 0, 0, .null)]
theorem kX8_readSum_63 : kx_oks kxL_X8 false cX8_readSum 63 bX8_readSum_63 = true := by decide +kernel
def bX8_readSum_67 : List kx_O := [(.ifCond .eq 21, 88, 0, 0, .null)]
theorem kX8_readSum_67 : kx_oks kxL_X8 false cX8_readSum 67 bX8_readSum_67 = true := by decide +kernel
def bX8_readSum_70 : List kx_O := [(.aload_n 0, 0, 0, 0, .null), (.getfield 37, 8, 9, 0, .null), (.getfield 206, 9, 16, 0, .null), (.iload_n 3, 3, 0, 0, .null)]
theorem kX8_readSum_70 : kx_oks kxL_X8 false cX8_readSum 70 bX8_readSum_70 = true := by decide +kernel
def bX8_readSum_81 : List kx_O := [(.ifCond .eq 7, 88, 0, 0, .null)]
theorem kX8_readSum_81 : kx_oks kxL_X8 false cX8_readSum 81 bX8_readSum_81 = true := by decide +kernel
def bX8_readSum_84 : List kx_O := [(.iconst 1, 0, 0, 0, .int 1), (.goto 4, 89, 0, 0, .null)]
theorem kX8_readSum_84 : kx_oks kxL_X8 false cX8_readSum 84 bX8_readSum_84 = true := by decide +kernel
def bX8_readSum_88 : List kx_O := [(.iconst 0, 0, 0, 0, .int 0)]
theorem kX8_readSum_88 : kx_oks kxL_X8 false cX8_readSum 88 bX8_readSum_88 = true := by decide +kernel
def bX8_readSum_89 : List kx_O := [(.istore_n 1, 1, 0, 0, .null), (.iinc 2 1, 2, 0, 0, .int 1), (.goto (-86), 7, 0, 0, .null)]
theorem kX8_readSum_89 : kx_oks kxL_X8 false cX8_readSum 89 bX8_readSum_89 = true := by decide +kernel
def bX8_readSum_96 : List kx_O := [(.iload_n 1, 1, 0, 0, .null), (.ireturn, 0, 0, 0, .null)]
theorem kX8_readSum_96 : kx_oks kxL_X8 false cX8_readSum 96 bX8_readSum_96 = true := by decide +kernel
theorem dX8_readSum_1 : decode cX8_readSum 1 = .ok (.invokevirtual 201, 3) := by decide +kernel
theorem dX8_readSum_21 : decode cX8_readSum 21 = .ok (.invokevirtual 54, 3) := by decide +kernel
theorem dX8_readSum_30 : decode cX8_readSum 30 = .ok (.invokevirtual 54, 3) := by decide +kernel
theorem dX8_readSum_60 : decode cX8_readSum 60 = .ok (.invokevirtual 46, 3) := by decide +kernel
theorem dX8_readSum_64 : decode cX8_readSum 64 = .ok (.invokevirtual 201, 3) := by decide +kernel
theorem dX8_readSum_78 : decode cX8_readSum 78 = .ok (.invokevirtual 209, 3) := by decide +kernel
set_option maxRecDepth 100000 in
set_option maxHeartbeats 4000000 in
theorem cp_su (l : Launch) (G : kx_G) {P : kx_P} {sz : Nat} {Q : kx_P} {w : Nat} (hw : 144 ≤ w) {T V : Nat → Int32} (hT : Q 67 = kI 0 400 T) (hQ : Q w = kO 9 (kf (cr9 w) V)) {n : Nat} (hn : n ≤ 400) {N d d2 : Nat} (hdd : 7 ≤ d) (hd2 : d2 < d) {U : ck_R → ck_R} (hUg : ck_gd n U) (hUs : ck_st U) (hU : ∀ S : ck_R, S.2.1 = -1 → ck_sl n 0 S → ck_lv N S → cx_W l G sX8_readProduct d2 Q w T n [] S (U S) sz) {S : ck_R} (hs : S.2.1 = -1) (hsl : ck_sl n 0 S) (hlv : ck_lv N S) {F Fo st : Nat → Int32} (he : cx_E T n S F Fo st)  : kx_Mn l G sX8_readSum d 0 0 [.ref 68] (cx_8 (cx_fW Q w Fo st) (.ref w) F) sz (cx_PE Q w T n (ck_lpwT T n U S) sz) := by
  have hUS := hUg 0 S hsl
  refine kz_m2 kx_tab kxLok_X8 (ini := false) [some (.ref 68), none, none, none] ⟨by decide +kernel, rfl, by decide, by omega⟩ (fun _ _ _ h => Or.inl h.rok) rfl rfl (fun g hB hC hN hK => ?_)
  have loop7 : ∀ (n9 : Nat) (S1 : ck_R) (F1 Fo1 st1 : Nat → Int32) (i : Nat) (z3 : Option Value), (S1.2.1 = -1 → cx_E T n S1 F1 Fo1 st1) → (¬ S1.2.1 = -1 → cx_X S1 F1) → ck_sl n 0 S1 → ck_lv N S1 → (S1.2.1 = -1 → n - S1.1 ≤ n9) → i + n9 ≤ 400 → ck_lpw T n U n9 S1 = ck_lpwT T n U S → g 7 [some (.ref 68), some (.int (cx_b S1)), some (.int (nI i)), z3] [] (cx_8 (cx_fW Q w Fo1 st1) (.ref w) F1) sz 0 0 := by
    intro n9
    induction n9 with
    | zero =>
      intro S1 F1 Fo1 st1 i z3 hE hX hsl1 hlv1 hnn hi9 he9
      have hcase : (¬ S1.2.1 = -1) ∨ (S1.2.1 = -1 ∧ ¬ (ck_hcx T n S1.1 = 43 ∨ ck_hcx T n S1.1 = 45)) := by
        by_cases hg : S1.2.1 = -1
        · refine Or.inr ⟨hg, fun q => ?_⟩
          have hlt : ck_sk T n S1.1 < n := by
            rcases q with q | q <;> exact cx_nx_lt q (by decide)
          have := ck_sk_le T hsl1.1
          have := hnn hg
          omega
        · exact Or.inl hg
      rcases hcase with hg | ⟨hg, hno⟩
      · rw [cx_b0 hg]
        have hR : ck_lpwT T n U S = S1 := he9.symm.trans (ck_lpw_st _ S1 hg)
        refine hB bX8_readSum_7 _ _ _ _ _ _ _ kX8_readSum_7 ?_
        dsimp only [bX8_readSum_7, kx_wp, kx_step, kx_lI, kx_lL, kx_lA, kx_gl, kx_pI, kx_pL, kx_pR, kx_pA, kx_pV, kx_s1, kx_s2, kx_sl, kx_pre, kx_c2, kx_pl, kx_cmp, kx_oF, kx_eqN, kx_nil, kx_c1, kx_ft, kx_aI, kx_aL, kx_aR, kx_ln, Nat.reduceAdd, Option.toList, List.cons_append, List.nil_append, cf8_0, cf8_2, cf8_9, cf9_16]
        repeat (simp only [cx_8w0 hw, cx_8o, cx_83 hw, cx_84 hw, hQ, hs, pk_us, pk_un, ne_eq, Nat.reduceEqDiff, not_false_eq_true, hE.2.1, cx_8n (show ¬ (67:Nat) = 68 by decide), cx_f67 hw, hT, nI_clamp (show ck_sk T n S1.1 < 2 ^ 31 by omega), nI_1, ks_eq, ks_ss]; try dsimp only [kx_wp, kx_step, kx_lI, kx_lL, kx_lA, kx_gl, kx_pI, kx_pL, kx_pR, kx_pA, kx_pV, kx_s1, kx_s2, kx_sl, kx_pre, kx_c2, kx_pl, kx_cmp, kx_oF, kx_eqN, kx_nil, kx_c1, kx_ft, kx_aI, kx_aL, kx_aR, kx_ln, Nat.reduceAdd, Option.toList, List.cons_append, List.nil_append, cf8_0, cf8_2, cf8_9, cf9_16])
        repeat' apply And.intro
        all_goals try (first | with_reducible assumption | (with_reducible refine ck_nzI ?_; simp; done) | (with_reducible refine ck_nzL ?_; simp; done) | (with_reducible refine vp_in_nI ?_ ?_ <;> first | omega | decide) | (with_reducible refine Nat.le_of_ble_eq_true ?_; rfl) | omega | exact Or.inl trivial | exact Or.inr trivial | exact Or.inl rfl | exact Or.inr rfl)
        · intro zc8
          have ze8 := zc8
          refine hB bX8_readSum_96 _ _ _ _ _ _ _ kX8_readSum_96 ?_
          dsimp only [bX8_readSum_96, kx_wp, kx_step, kx_lI, kx_lL, kx_lA, kx_gl, kx_pI, kx_pL, kx_pR, kx_pA, kx_pV, kx_s1, kx_s2, kx_sl, kx_pre, kx_c2, kx_pl, kx_cmp, kx_oF, kx_eqN, kx_nil, kx_c1, kx_ft, kx_aI, kx_aL, kx_aR, kx_ln, Nat.reduceAdd, Option.toList, List.cons_append, List.nil_append, cf8_0, cf8_2, cf8_9, cf9_16]
          repeat (simp only [cx_8w0 hw, cx_8o, cx_83 hw, cx_84 hw, hQ, hs, pk_us, pk_un, ne_eq, Nat.reduceEqDiff, not_false_eq_true, hE.2.1, cx_8n (show ¬ (67:Nat) = 68 by decide), cx_f67 hw, hT, nI_clamp (show ck_sk T n S1.1 < 2 ^ 31 by omega), nI_1, ks_eq, ks_ss]; try dsimp only [kx_wp, kx_step, kx_lI, kx_lL, kx_lA, kx_gl, kx_pI, kx_pL, kx_pR, kx_pA, kx_pV, kx_s1, kx_s2, kx_sl, kx_pre, kx_c2, kx_pl, kx_cmp, kx_oF, kx_eqN, kx_nil, kx_c1, kx_ft, kx_aI, kx_aL, kx_aR, kx_ln, Nat.reduceAdd, Option.toList, List.cons_append, List.nil_append, cf8_0, cf8_2, cf8_9, cf9_16])
          all_goals (repeat' apply And.intro)
          all_goals (rw [hR]; first | exact cx_PE.f hg (hX hg) | exact cx_PE.t hg hER)
        · intro zc8
          first | exact absurd rfl zc8 | exact absurd zc8 (by decide) | exact absurd (by decide) zc8 | (exfalso; first | exact zc47 (by rw [hTs]; decide) | exact zc47 hTs | exact absurd ((nI_leI (a := 400) (b := i) (by omega) (by omega)).mp zc15) (by omega)) | (exfalso; simp_all; done)
      · rw [cx_b1 hg]
        have hle := ck_sk_le T hsl1.1
        have hE := hE hg
        have hTf : cx_fW Q w Fo1 st1 67 = kI 0 400 T := (cx_f67 hw).trans hT
        have hR : ck_lpwT T n U S = (ck_sk T n S1.1, S1.2) := by
          rw [← he9]
          show ck_ex T n S1 = _
          unfold ck_ex
          rw [if_pos hg]
        have hER : cx_E T n (ck_sk T n S1.1, S1.2) F1 Fo1 st1 := ⟨hE.1, by rw [ck_skk]; exact hE.2.1, hE.2.2.1, hE.2.2.2.1, hE.2.2.2.2.1, hE.2.2.2.2.2.1, hE.2.2.2.2.2.2⟩
        have hn43 := ct_X8_nextIs_f (l := l) (G := G) (sz := sz) (x := .ref w) hTf hE.1 hn hE.2.1 hle.2 (ch := 43) (by decide) (fun q => hno ((fun z => Or.inl <| z) q))
        have hn45 := ct_X8_nextIs_f (l := l) (G := G) (sz := sz) (x := .ref w) hTf hE.1 hn hE.2.1 hle.2 (ch := 45) (by decide) (fun q => hno ((fun z => Or.inr <| z) q))
        refine hB bX8_readSum_7 _ _ _ _ _ _ _ kX8_readSum_7 ?_
        dsimp only [bX8_readSum_7, kx_wp, kx_step, kx_lI, kx_lL, kx_lA, kx_gl, kx_pI, kx_pL, kx_pR, kx_pA, kx_pV, kx_s1, kx_s2, kx_sl, kx_pre, kx_c2, kx_pl, kx_cmp, kx_oF, kx_eqN, kx_nil, kx_c1, kx_ft, kx_aI, kx_aL, kx_aR, kx_ln, Nat.reduceAdd, Option.toList, List.cons_append, List.nil_append, cf8_0, cf8_2, cf8_9, cf9_16]
        repeat (simp only [cx_8w0 hw, cx_8o, cx_83 hw, cx_84 hw, hQ, hs, pk_us, pk_un, ne_eq, Nat.reduceEqDiff, not_false_eq_true, hE.2.1, cx_8n (show ¬ (67:Nat) = 68 by decide), cx_f67 hw, hT, nI_clamp (show ck_sk T n S1.1 < 2 ^ 31 by omega), nI_1, ks_eq, ks_ss]; try dsimp only [kx_wp, kx_step, kx_lI, kx_lL, kx_lA, kx_gl, kx_pI, kx_pL, kx_pR, kx_pA, kx_pV, kx_s1, kx_s2, kx_sl, kx_pre, kx_c2, kx_pl, kx_cmp, kx_oF, kx_eqN, kx_nil, kx_c1, kx_ft, kx_aI, kx_aL, kx_aR, kx_ln, Nat.reduceAdd, Option.toList, List.cons_append, List.nil_append, cf8_0, cf8_2, cf8_9, cf9_16])
        repeat' apply And.intro
        all_goals try (first | with_reducible assumption | (with_reducible refine ck_nzI ?_; simp; done) | (with_reducible refine ck_nzL ?_; simp; done) | (with_reducible refine vp_in_nI ?_ ?_ <;> first | omega | decide) | (with_reducible refine Nat.le_of_ble_eq_true ?_; rfl) | omega | exact Or.inl trivial | exact Or.inr trivial | exact Or.inl rfl | exact Or.inr rfl)
        · intro zc8
          first | exact absurd rfl zc8 | exact absurd zc8 (by decide) | exact absurd (by decide) zc8 | (exfalso; first | exact zc47 (by rw [hTs]; decide) | exact zc47 hTs | exact absurd ((nI_leI (a := 400) (b := i) (by omega) (by omega)).mp zc15) (by omega)) | (exfalso; simp_all; done)
        · intro zc8
          have ze8 := zc8
          refine hB bX8_readSum_11 _ _ _ _ _ _ _ kX8_readSum_11 ?_
          dsimp only [bX8_readSum_11, kx_wp, kx_step, kx_lI, kx_lL, kx_lA, kx_gl, kx_pI, kx_pL, kx_pR, kx_pA, kx_pV, kx_s1, kx_s2, kx_sl, kx_pre, kx_c2, kx_pl, kx_cmp, kx_oF, kx_eqN, kx_nil, kx_c1, kx_ft, kx_aI, kx_aL, kx_aR, kx_ln, Nat.reduceAdd, Option.toList, List.cons_append, List.nil_append, cf8_0, cf8_2, cf8_9, cf9_16]
          repeat (simp only [cx_8w0 hw, cx_8o, cx_83 hw, cx_84 hw, hQ, hs, pk_us, pk_un, ne_eq, Nat.reduceEqDiff, not_false_eq_true, hE.2.1, cx_8n (show ¬ (67:Nat) = 68 by decide), cx_f67 hw, hT, nI_clamp (show ck_sk T n S1.1 < 2 ^ 31 by omega), nI_1, ks_eq, ks_ss]; try dsimp only [kx_wp, kx_step, kx_lI, kx_lL, kx_lA, kx_gl, kx_pI, kx_pL, kx_pR, kx_pA, kx_pV, kx_s1, kx_s2, kx_sl, kx_pre, kx_c2, kx_pl, kx_cmp, kx_oF, kx_eqN, kx_nil, kx_c1, kx_ft, kx_aI, kx_aL, kx_aR, kx_ln, Nat.reduceAdd, Option.toList, List.cons_append, List.nil_append, cf8_0, cf8_2, cf8_9, cf9_16])
          repeat' apply And.intro
          all_goals try (first | with_reducible assumption | (with_reducible refine ck_nzI ?_; simp; done) | (with_reducible refine ck_nzL ?_; simp; done) | (with_reducible refine vp_in_nI ?_ ?_ <;> first | omega | decide) | (with_reducible refine Nat.le_of_ble_eq_true ?_; rfl) | omega | exact Or.inl trivial | exact Or.inr trivial | exact Or.inl rfl | exact Or.inr rfl)
          · intro zc15
            with_reducible first | have ze15 := Int32.not_lt.mpr zc15 | have ze15 := zc15
            refine hB bX8_readSum_96 _ _ _ _ _ _ _ kX8_readSum_96 ?_
            dsimp only [bX8_readSum_96, kx_wp, kx_step, kx_lI, kx_lL, kx_lA, kx_gl, kx_pI, kx_pL, kx_pR, kx_pA, kx_pV, kx_s1, kx_s2, kx_sl, kx_pre, kx_c2, kx_pl, kx_cmp, kx_oF, kx_eqN, kx_nil, kx_c1, kx_ft, kx_aI, kx_aL, kx_aR, kx_ln, Nat.reduceAdd, Option.toList, List.cons_append, List.nil_append, cf8_0, cf8_2, cf8_9, cf9_16]
            repeat (simp only [cx_8w0 hw, cx_8o, cx_83 hw, cx_84 hw, hQ, hs, pk_us, pk_un, ne_eq, Nat.reduceEqDiff, not_false_eq_true, hE.2.1, cx_8n (show ¬ (67:Nat) = 68 by decide), cx_f67 hw, hT, nI_clamp (show ck_sk T n S1.1 < 2 ^ 31 by omega), nI_1, ks_eq, ks_ss]; try dsimp only [kx_wp, kx_step, kx_lI, kx_lL, kx_lA, kx_gl, kx_pI, kx_pL, kx_pR, kx_pA, kx_pV, kx_s1, kx_s2, kx_sl, kx_pre, kx_c2, kx_pl, kx_cmp, kx_oF, kx_eqN, kx_nil, kx_c1, kx_ft, kx_aI, kx_aL, kx_aR, kx_ln, Nat.reduceAdd, Option.toList, List.cons_append, List.nil_append, cf8_0, cf8_2, cf8_9, cf9_16])
            all_goals (repeat' apply And.intro)
            all_goals (rw [hR]; first | exact cx_PE.f hg (hX hg) | exact cx_PE.t hg hER)
          · intro zc15
            with_reducible first | have ze15 := Int32.not_le.mp zc15 | have ze15 := zc15
            refine hB bX8_readSum_18 _ _ _ _ _ _ _ kX8_readSum_18 ?_
            dsimp only [bX8_readSum_18, kx_wp, kx_step, kx_lI, kx_lL, kx_lA, kx_gl, kx_pI, kx_pL, kx_pR, kx_pA, kx_pV, kx_s1, kx_s2, kx_sl, kx_pre, kx_c2, kx_pl, kx_cmp, kx_oF, kx_eqN, kx_nil, kx_c1, kx_ft, kx_aI, kx_aL, kx_aR, kx_ln, Nat.reduceAdd, Option.toList, List.cons_append, List.nil_append, cf8_0, cf8_2, cf8_9, cf9_16]
            repeat (simp only [cx_8w0 hw, cx_8o, cx_83 hw, cx_84 hw, hQ, hs, pk_us, pk_un, ne_eq, Nat.reduceEqDiff, not_false_eq_true, hE.2.1, cx_8n (show ¬ (67:Nat) = 68 by decide), cx_f67 hw, hT, nI_clamp (show ck_sk T n S1.1 < 2 ^ 31 by omega), nI_1, ks_eq, ks_ss]; try dsimp only [kx_wp, kx_step, kx_lI, kx_lL, kx_lA, kx_gl, kx_pI, kx_pL, kx_pR, kx_pA, kx_pV, kx_s1, kx_s2, kx_sl, kx_pre, kx_c2, kx_pl, kx_cmp, kx_oF, kx_eqN, kx_nil, kx_c1, kx_ft, kx_aI, kx_aL, kx_aR, kx_ln, Nat.reduceAdd, Option.toList, List.cons_append, List.nil_append, cf8_0, cf8_2, cf8_9, cf9_16])
            repeat' apply And.intro
            all_goals try (first | with_reducible assumption | (with_reducible refine ck_nzI ?_; simp; done) | (with_reducible refine ck_nzL ?_; simp; done) | (with_reducible refine vp_in_nI ?_ ?_ <;> first | omega | decide) | (with_reducible refine Nat.le_of_ble_eq_true ?_; rfl) | omega | exact Or.inl trivial | exact Or.inr trivial | exact Or.inl rfl | exact Or.inr rfl)
            refine hC.1 54 _ _ _ _ _ _ _ 8 _ _ _ _ _ _ _ _ _ _ _ _ lX8_54 (hn43) ⟨by decide, rfl⟩ (cx_8o) rfl rfl (Nat.le_of_ble_eq_true rfl) (by first | decide | omega) (by decide) (by omega) (by omega) dX8_readSum_21 ?_
            refine hB bX8_readSum_24 _ _ _ _ _ _ _ kX8_readSum_24 ?_
            dsimp only [bX8_readSum_24, kx_wp, kx_step, kx_lI, kx_lL, kx_lA, kx_gl, kx_pI, kx_pL, kx_pR, kx_pA, kx_pV, kx_s1, kx_s2, kx_sl, kx_pre, kx_c2, kx_pl, kx_cmp, kx_oF, kx_eqN, kx_nil, kx_c1, kx_ft, kx_aI, kx_aL, kx_aR, kx_ln, Nat.reduceAdd, Option.toList, List.cons_append, List.nil_append, cf8_0, cf8_2, cf8_9, cf9_16]
            repeat (simp only [cx_8w0 hw, cx_8o, cx_83 hw, cx_84 hw, hQ, hs, pk_us, pk_un, ne_eq, Nat.reduceEqDiff, not_false_eq_true, hE.2.1, cx_8n (show ¬ (67:Nat) = 68 by decide), cx_f67 hw, hT, nI_clamp (show ck_sk T n S1.1 < 2 ^ 31 by omega), nI_1, ks_eq, ks_ss]; try dsimp only [kx_wp, kx_step, kx_lI, kx_lL, kx_lA, kx_gl, kx_pI, kx_pL, kx_pR, kx_pA, kx_pV, kx_s1, kx_s2, kx_sl, kx_pre, kx_c2, kx_pl, kx_cmp, kx_oF, kx_eqN, kx_nil, kx_c1, kx_ft, kx_aI, kx_aL, kx_aR, kx_ln, Nat.reduceAdd, Option.toList, List.cons_append, List.nil_append, cf8_0, cf8_2, cf8_9, cf9_16])
            repeat' apply And.intro
            all_goals try (first | with_reducible assumption | (with_reducible refine ck_nzI ?_; simp; done) | (with_reducible refine ck_nzL ?_; simp; done) | (with_reducible refine vp_in_nI ?_ ?_ <;> first | omega | decide) | (with_reducible refine Nat.le_of_ble_eq_true ?_; rfl) | omega | exact Or.inl trivial | exact Or.inr trivial | exact Or.inl rfl | exact Or.inr rfl)
            · intro zc24
              first | exact absurd rfl zc24 | exact absurd zc24 (by decide) | exact absurd (by decide) zc24 | (exfalso; first | exact zc47 (by rw [hTs]; decide) | exact zc47 hTs | exact absurd ((nI_leI (a := 400) (b := i) (by omega) (by omega)).mp zc15) (by omega)) | (exfalso; simp_all; done)
            · intro zc24
              with_reducible first | have ze24 := Decidable.not_not.mp zc24 | have ze24 := zc24
              refine hB bX8_readSum_27 _ _ _ _ _ _ _ kX8_readSum_27 ?_
              dsimp only [bX8_readSum_27, kx_wp, kx_step, kx_lI, kx_lL, kx_lA, kx_gl, kx_pI, kx_pL, kx_pR, kx_pA, kx_pV, kx_s1, kx_s2, kx_sl, kx_pre, kx_c2, kx_pl, kx_cmp, kx_oF, kx_eqN, kx_nil, kx_c1, kx_ft, kx_aI, kx_aL, kx_aR, kx_ln, Nat.reduceAdd, Option.toList, List.cons_append, List.nil_append, cf8_0, cf8_2, cf8_9, cf9_16]
              repeat (simp only [cx_8w0 hw, cx_8o, cx_83 hw, cx_84 hw, hQ, hs, pk_us, pk_un, ne_eq, Nat.reduceEqDiff, not_false_eq_true, hE.2.1, cx_8n (show ¬ (67:Nat) = 68 by decide), cx_f67 hw, hT, nI_clamp (show ck_sk T n S1.1 < 2 ^ 31 by omega), nI_1, ks_eq, ks_ss]; try dsimp only [kx_wp, kx_step, kx_lI, kx_lL, kx_lA, kx_gl, kx_pI, kx_pL, kx_pR, kx_pA, kx_pV, kx_s1, kx_s2, kx_sl, kx_pre, kx_c2, kx_pl, kx_cmp, kx_oF, kx_eqN, kx_nil, kx_c1, kx_ft, kx_aI, kx_aL, kx_aR, kx_ln, Nat.reduceAdd, Option.toList, List.cons_append, List.nil_append, cf8_0, cf8_2, cf8_9, cf9_16])
              repeat' apply And.intro
              all_goals try (first | with_reducible assumption | (with_reducible refine ck_nzI ?_; simp; done) | (with_reducible refine ck_nzL ?_; simp; done) | (with_reducible refine vp_in_nI ?_ ?_ <;> first | omega | decide) | (with_reducible refine Nat.le_of_ble_eq_true ?_; rfl) | omega | exact Or.inl trivial | exact Or.inr trivial | exact Or.inl rfl | exact Or.inr rfl)
              refine hC.1 54 _ _ _ _ _ _ _ 8 _ _ _ _ _ _ _ _ _ _ _ _ lX8_54 (hn45) ⟨by decide, rfl⟩ (cx_8o) rfl rfl (Nat.le_of_ble_eq_true rfl) (by first | decide | omega) (by decide) (by omega) (by omega) dX8_readSum_30 ?_
              refine hB bX8_readSum_33 _ _ _ _ _ _ _ kX8_readSum_33 ?_
              dsimp only [bX8_readSum_33, kx_wp, kx_step, kx_lI, kx_lL, kx_lA, kx_gl, kx_pI, kx_pL, kx_pR, kx_pA, kx_pV, kx_s1, kx_s2, kx_sl, kx_pre, kx_c2, kx_pl, kx_cmp, kx_oF, kx_eqN, kx_nil, kx_c1, kx_ft, kx_aI, kx_aL, kx_aR, kx_ln, Nat.reduceAdd, Option.toList, List.cons_append, List.nil_append, cf8_0, cf8_2, cf8_9, cf9_16]
              repeat (simp only [cx_8w0 hw, cx_8o, cx_83 hw, cx_84 hw, hQ, hs, pk_us, pk_un, ne_eq, Nat.reduceEqDiff, not_false_eq_true, hE.2.1, cx_8n (show ¬ (67:Nat) = 68 by decide), cx_f67 hw, hT, nI_clamp (show ck_sk T n S1.1 < 2 ^ 31 by omega), nI_1, ks_eq, ks_ss]; try dsimp only [kx_wp, kx_step, kx_lI, kx_lL, kx_lA, kx_gl, kx_pI, kx_pL, kx_pR, kx_pA, kx_pV, kx_s1, kx_s2, kx_sl, kx_pre, kx_c2, kx_pl, kx_cmp, kx_oF, kx_eqN, kx_nil, kx_c1, kx_ft, kx_aI, kx_aL, kx_aR, kx_ln, Nat.reduceAdd, Option.toList, List.cons_append, List.nil_append, cf8_0, cf8_2, cf8_9, cf9_16])
              repeat' apply And.intro
              all_goals try (first | with_reducible assumption | (with_reducible refine ck_nzI ?_; simp; done) | (with_reducible refine ck_nzL ?_; simp; done) | (with_reducible refine vp_in_nI ?_ ?_ <;> first | omega | decide) | (with_reducible refine Nat.le_of_ble_eq_true ?_; rfl) | omega | exact Or.inl trivial | exact Or.inr trivial | exact Or.inl rfl | exact Or.inr rfl)
              · intro zc33
                have ze33 := zc33
                refine hB bX8_readSum_96 _ _ _ _ _ _ _ kX8_readSum_96 ?_
                dsimp only [bX8_readSum_96, kx_wp, kx_step, kx_lI, kx_lL, kx_lA, kx_gl, kx_pI, kx_pL, kx_pR, kx_pA, kx_pV, kx_s1, kx_s2, kx_sl, kx_pre, kx_c2, kx_pl, kx_cmp, kx_oF, kx_eqN, kx_nil, kx_c1, kx_ft, kx_aI, kx_aL, kx_aR, kx_ln, Nat.reduceAdd, Option.toList, List.cons_append, List.nil_append, cf8_0, cf8_2, cf8_9, cf9_16]
                repeat (simp only [cx_8w0 hw, cx_8o, cx_83 hw, cx_84 hw, hQ, hs, pk_us, pk_un, ne_eq, Nat.reduceEqDiff, not_false_eq_true, hE.2.1, cx_8n (show ¬ (67:Nat) = 68 by decide), cx_f67 hw, hT, nI_clamp (show ck_sk T n S1.1 < 2 ^ 31 by omega), nI_1, ks_eq, ks_ss]; try dsimp only [kx_wp, kx_step, kx_lI, kx_lL, kx_lA, kx_gl, kx_pI, kx_pL, kx_pR, kx_pA, kx_pV, kx_s1, kx_s2, kx_sl, kx_pre, kx_c2, kx_pl, kx_cmp, kx_oF, kx_eqN, kx_nil, kx_c1, kx_ft, kx_aI, kx_aL, kx_aR, kx_ln, Nat.reduceAdd, Option.toList, List.cons_append, List.nil_append, cf8_0, cf8_2, cf8_9, cf9_16])
                all_goals (repeat' apply And.intro)
                all_goals (rw [hR]; first | exact cx_PE.f hg (hX hg) | exact cx_PE.t hg hER)
              · intro zc33
                first | exact absurd rfl zc33 | exact absurd zc33 (by decide) | exact absurd (by decide) zc33 | (exfalso; first | exact zc47 (by rw [hTs]; decide) | exact zc47 hTs | exact absurd ((nI_leI (a := 400) (b := i) (by omega) (by omega)).mp zc15) (by omega)) | (exfalso; simp_all; done)
    | succ n9 ih =>
      intro S1 F1 Fo1 st1 i z3 hE hX hsl1 hlv1 hnn hi9 he9
      have hcase : (¬ S1.2.1 = -1) ∨ (S1.2.1 = -1 ∧ ¬ (ck_hcx T n S1.1 = 43 ∨ ck_hcx T n S1.1 = 45)) ∨ (S1.2.1 = -1 ∧ ck_hcx T n S1.1 = 43 ∧ (U (ck_sk T n S1.1 + 1, S1.2)).2.1 = -1) ∨ (S1.2.1 = -1 ∧ ck_hcx T n S1.1 = 43 ∧ ¬ (U (ck_sk T n S1.1 + 1, S1.2)).2.1 = -1) ∨ (S1.2.1 = -1 ∧ ck_hcx T n S1.1 = 45 ∧ (U (ck_sk T n S1.1 + 1, S1.2)).2.1 = -1) ∨ (S1.2.1 = -1 ∧ ck_hcx T n S1.1 = 45 ∧ ¬ (U (ck_sk T n S1.1 + 1, S1.2)).2.1 = -1) := by
        by_cases hg : S1.2.1 = -1
        · by_cases ho0 : ck_hcx T n S1.1 = 43
          · by_cases hg9 : (U (ck_sk T n S1.1 + 1, S1.2)).2.1 = -1
            · exact Or.inr (Or.inr (Or.inl (⟨hg, ho0, hg9⟩)))
            · exact Or.inr (Or.inr (Or.inr (Or.inl (⟨hg, ho0, hg9⟩))))
          · by_cases ho1 : ck_hcx T n S1.1 = 45
            · by_cases hg9 : (U (ck_sk T n S1.1 + 1, S1.2)).2.1 = -1
              · exact Or.inr (Or.inr (Or.inr (Or.inr (Or.inl (⟨hg, ho1, hg9⟩)))))
              · exact Or.inr (Or.inr (Or.inr (Or.inr (Or.inr ((⟨hg, ho1, hg9⟩))))))
            · exact Or.inr (Or.inl (⟨hg, fun q => by rcases q with q | q <;> contradiction⟩))
        · exact Or.inl hg
      rcases hcase with hg | ⟨hg, hno⟩ | ⟨hg, hop, hg9⟩ | ⟨hg, hop, hg9⟩ | ⟨hg, hop, hg9⟩ | ⟨hg, hop, hg9⟩
      · rw [cx_b0 hg]
        have hR : ck_lpwT T n U S = S1 := he9.symm.trans (ck_lpw_st _ S1 hg)
        refine hB bX8_readSum_7 _ _ _ _ _ _ _ kX8_readSum_7 ?_
        dsimp only [bX8_readSum_7, kx_wp, kx_step, kx_lI, kx_lL, kx_lA, kx_gl, kx_pI, kx_pL, kx_pR, kx_pA, kx_pV, kx_s1, kx_s2, kx_sl, kx_pre, kx_c2, kx_pl, kx_cmp, kx_oF, kx_eqN, kx_nil, kx_c1, kx_ft, kx_aI, kx_aL, kx_aR, kx_ln, Nat.reduceAdd, Option.toList, List.cons_append, List.nil_append, cf8_0, cf8_2, cf8_9, cf9_16]
        repeat (simp only [cx_8w0 hw, cx_8o, cx_83 hw, cx_84 hw, hQ, hs, pk_us, pk_un, ne_eq, Nat.reduceEqDiff, not_false_eq_true, hE.2.1, cx_8n (show ¬ (67:Nat) = 68 by decide), cx_f67 hw, hT, nI_clamp (show ck_sk T n S1.1 < 2 ^ 31 by omega), nI_1, ks_eq, ks_ss]; try dsimp only [kx_wp, kx_step, kx_lI, kx_lL, kx_lA, kx_gl, kx_pI, kx_pL, kx_pR, kx_pA, kx_pV, kx_s1, kx_s2, kx_sl, kx_pre, kx_c2, kx_pl, kx_cmp, kx_oF, kx_eqN, kx_nil, kx_c1, kx_ft, kx_aI, kx_aL, kx_aR, kx_ln, Nat.reduceAdd, Option.toList, List.cons_append, List.nil_append, cf8_0, cf8_2, cf8_9, cf9_16])
        repeat' apply And.intro
        all_goals try (first | with_reducible assumption | (with_reducible refine ck_nzI ?_; simp; done) | (with_reducible refine ck_nzL ?_; simp; done) | (with_reducible refine vp_in_nI ?_ ?_ <;> first | omega | decide) | (with_reducible refine Nat.le_of_ble_eq_true ?_; rfl) | omega | exact Or.inl trivial | exact Or.inr trivial | exact Or.inl rfl | exact Or.inr rfl)
        · intro zc8
          have ze8 := zc8
          refine hB bX8_readSum_96 _ _ _ _ _ _ _ kX8_readSum_96 ?_
          dsimp only [bX8_readSum_96, kx_wp, kx_step, kx_lI, kx_lL, kx_lA, kx_gl, kx_pI, kx_pL, kx_pR, kx_pA, kx_pV, kx_s1, kx_s2, kx_sl, kx_pre, kx_c2, kx_pl, kx_cmp, kx_oF, kx_eqN, kx_nil, kx_c1, kx_ft, kx_aI, kx_aL, kx_aR, kx_ln, Nat.reduceAdd, Option.toList, List.cons_append, List.nil_append, cf8_0, cf8_2, cf8_9, cf9_16]
          repeat (simp only [cx_8w0 hw, cx_8o, cx_83 hw, cx_84 hw, hQ, hs, pk_us, pk_un, ne_eq, Nat.reduceEqDiff, not_false_eq_true, hE.2.1, cx_8n (show ¬ (67:Nat) = 68 by decide), cx_f67 hw, hT, nI_clamp (show ck_sk T n S1.1 < 2 ^ 31 by omega), nI_1, ks_eq, ks_ss]; try dsimp only [kx_wp, kx_step, kx_lI, kx_lL, kx_lA, kx_gl, kx_pI, kx_pL, kx_pR, kx_pA, kx_pV, kx_s1, kx_s2, kx_sl, kx_pre, kx_c2, kx_pl, kx_cmp, kx_oF, kx_eqN, kx_nil, kx_c1, kx_ft, kx_aI, kx_aL, kx_aR, kx_ln, Nat.reduceAdd, Option.toList, List.cons_append, List.nil_append, cf8_0, cf8_2, cf8_9, cf9_16])
          all_goals (repeat' apply And.intro)
          all_goals (rw [hR]; first | exact cx_PE.f hg (hX hg) | exact cx_PE.t hg hER)
        · intro zc8
          first | exact absurd rfl zc8 | exact absurd zc8 (by decide) | exact absurd (by decide) zc8 | (exfalso; first | exact zc47 (by rw [hTs]; decide) | exact zc47 hTs | exact absurd ((nI_leI (a := 400) (b := i) (by omega) (by omega)).mp zc15) (by omega)) | (exfalso; simp_all; done)
      · rw [cx_b1 hg]
        have hle := ck_sk_le T hsl1.1
        have hE := hE hg
        have hTf : cx_fW Q w Fo1 st1 67 = kI 0 400 T := (cx_f67 hw).trans hT
        have hR : ck_lpwT T n U S = (ck_sk T n S1.1, S1.2) := by
          rw [← he9]
          show (if S1.2.1 = -1 ∧ (ck_hcx T n S1.1 = 43 ∨ ck_hcx T n S1.1 = 45) then ck_lpw T n U n9 (ck_one T n U (if ck_hcx T n S1.1 = 43 then 4 else 5) S1) else ck_ex T n S1) = _
          rw [if_neg (fun q => hno q.2)]
          unfold ck_ex
          rw [if_pos hg]
        have hER : cx_E T n (ck_sk T n S1.1, S1.2) F1 Fo1 st1 := ⟨hE.1, by rw [ck_skk]; exact hE.2.1, hE.2.2.1, hE.2.2.2.1, hE.2.2.2.2.1, hE.2.2.2.2.2.1, hE.2.2.2.2.2.2⟩
        have hn43 := ct_X8_nextIs_f (l := l) (G := G) (sz := sz) (x := .ref w) hTf hE.1 hn hE.2.1 hle.2 (ch := 43) (by decide) (fun q => hno ((fun z => Or.inl <| z) q))
        have hn45 := ct_X8_nextIs_f (l := l) (G := G) (sz := sz) (x := .ref w) hTf hE.1 hn hE.2.1 hle.2 (ch := 45) (by decide) (fun q => hno ((fun z => Or.inr <| z) q))
        refine hB bX8_readSum_7 _ _ _ _ _ _ _ kX8_readSum_7 ?_
        dsimp only [bX8_readSum_7, kx_wp, kx_step, kx_lI, kx_lL, kx_lA, kx_gl, kx_pI, kx_pL, kx_pR, kx_pA, kx_pV, kx_s1, kx_s2, kx_sl, kx_pre, kx_c2, kx_pl, kx_cmp, kx_oF, kx_eqN, kx_nil, kx_c1, kx_ft, kx_aI, kx_aL, kx_aR, kx_ln, Nat.reduceAdd, Option.toList, List.cons_append, List.nil_append, cf8_0, cf8_2, cf8_9, cf9_16]
        repeat (simp only [cx_8w0 hw, cx_8o, cx_83 hw, cx_84 hw, hQ, hs, pk_us, pk_un, ne_eq, Nat.reduceEqDiff, not_false_eq_true, hE.2.1, cx_8n (show ¬ (67:Nat) = 68 by decide), cx_f67 hw, hT, nI_clamp (show ck_sk T n S1.1 < 2 ^ 31 by omega), nI_1, ks_eq, ks_ss]; try dsimp only [kx_wp, kx_step, kx_lI, kx_lL, kx_lA, kx_gl, kx_pI, kx_pL, kx_pR, kx_pA, kx_pV, kx_s1, kx_s2, kx_sl, kx_pre, kx_c2, kx_pl, kx_cmp, kx_oF, kx_eqN, kx_nil, kx_c1, kx_ft, kx_aI, kx_aL, kx_aR, kx_ln, Nat.reduceAdd, Option.toList, List.cons_append, List.nil_append, cf8_0, cf8_2, cf8_9, cf9_16])
        repeat' apply And.intro
        all_goals try (first | with_reducible assumption | (with_reducible refine ck_nzI ?_; simp; done) | (with_reducible refine ck_nzL ?_; simp; done) | (with_reducible refine vp_in_nI ?_ ?_ <;> first | omega | decide) | (with_reducible refine Nat.le_of_ble_eq_true ?_; rfl) | omega | exact Or.inl trivial | exact Or.inr trivial | exact Or.inl rfl | exact Or.inr rfl)
        · intro zc8
          first | exact absurd rfl zc8 | exact absurd zc8 (by decide) | exact absurd (by decide) zc8 | (exfalso; first | exact zc47 (by rw [hTs]; decide) | exact zc47 hTs | exact absurd ((nI_leI (a := 400) (b := i) (by omega) (by omega)).mp zc15) (by omega)) | (exfalso; simp_all; done)
        · intro zc8
          have ze8 := zc8
          refine hB bX8_readSum_11 _ _ _ _ _ _ _ kX8_readSum_11 ?_
          dsimp only [bX8_readSum_11, kx_wp, kx_step, kx_lI, kx_lL, kx_lA, kx_gl, kx_pI, kx_pL, kx_pR, kx_pA, kx_pV, kx_s1, kx_s2, kx_sl, kx_pre, kx_c2, kx_pl, kx_cmp, kx_oF, kx_eqN, kx_nil, kx_c1, kx_ft, kx_aI, kx_aL, kx_aR, kx_ln, Nat.reduceAdd, Option.toList, List.cons_append, List.nil_append, cf8_0, cf8_2, cf8_9, cf9_16]
          repeat (simp only [cx_8w0 hw, cx_8o, cx_83 hw, cx_84 hw, hQ, hs, pk_us, pk_un, ne_eq, Nat.reduceEqDiff, not_false_eq_true, hE.2.1, cx_8n (show ¬ (67:Nat) = 68 by decide), cx_f67 hw, hT, nI_clamp (show ck_sk T n S1.1 < 2 ^ 31 by omega), nI_1, ks_eq, ks_ss]; try dsimp only [kx_wp, kx_step, kx_lI, kx_lL, kx_lA, kx_gl, kx_pI, kx_pL, kx_pR, kx_pA, kx_pV, kx_s1, kx_s2, kx_sl, kx_pre, kx_c2, kx_pl, kx_cmp, kx_oF, kx_eqN, kx_nil, kx_c1, kx_ft, kx_aI, kx_aL, kx_aR, kx_ln, Nat.reduceAdd, Option.toList, List.cons_append, List.nil_append, cf8_0, cf8_2, cf8_9, cf9_16])
          repeat' apply And.intro
          all_goals try (first | with_reducible assumption | (with_reducible refine ck_nzI ?_; simp; done) | (with_reducible refine ck_nzL ?_; simp; done) | (with_reducible refine vp_in_nI ?_ ?_ <;> first | omega | decide) | (with_reducible refine Nat.le_of_ble_eq_true ?_; rfl) | omega | exact Or.inl trivial | exact Or.inr trivial | exact Or.inl rfl | exact Or.inr rfl)
          · intro zc15
            with_reducible first | have ze15 := Int32.not_lt.mpr zc15 | have ze15 := zc15
            refine hB bX8_readSum_96 _ _ _ _ _ _ _ kX8_readSum_96 ?_
            dsimp only [bX8_readSum_96, kx_wp, kx_step, kx_lI, kx_lL, kx_lA, kx_gl, kx_pI, kx_pL, kx_pR, kx_pA, kx_pV, kx_s1, kx_s2, kx_sl, kx_pre, kx_c2, kx_pl, kx_cmp, kx_oF, kx_eqN, kx_nil, kx_c1, kx_ft, kx_aI, kx_aL, kx_aR, kx_ln, Nat.reduceAdd, Option.toList, List.cons_append, List.nil_append, cf8_0, cf8_2, cf8_9, cf9_16]
            repeat (simp only [cx_8w0 hw, cx_8o, cx_83 hw, cx_84 hw, hQ, hs, pk_us, pk_un, ne_eq, Nat.reduceEqDiff, not_false_eq_true, hE.2.1, cx_8n (show ¬ (67:Nat) = 68 by decide), cx_f67 hw, hT, nI_clamp (show ck_sk T n S1.1 < 2 ^ 31 by omega), nI_1, ks_eq, ks_ss]; try dsimp only [kx_wp, kx_step, kx_lI, kx_lL, kx_lA, kx_gl, kx_pI, kx_pL, kx_pR, kx_pA, kx_pV, kx_s1, kx_s2, kx_sl, kx_pre, kx_c2, kx_pl, kx_cmp, kx_oF, kx_eqN, kx_nil, kx_c1, kx_ft, kx_aI, kx_aL, kx_aR, kx_ln, Nat.reduceAdd, Option.toList, List.cons_append, List.nil_append, cf8_0, cf8_2, cf8_9, cf9_16])
            all_goals (repeat' apply And.intro)
            all_goals (rw [hR]; first | exact cx_PE.f hg (hX hg) | exact cx_PE.t hg hER)
          · intro zc15
            with_reducible first | have ze15 := Int32.not_le.mp zc15 | have ze15 := zc15
            refine hB bX8_readSum_18 _ _ _ _ _ _ _ kX8_readSum_18 ?_
            dsimp only [bX8_readSum_18, kx_wp, kx_step, kx_lI, kx_lL, kx_lA, kx_gl, kx_pI, kx_pL, kx_pR, kx_pA, kx_pV, kx_s1, kx_s2, kx_sl, kx_pre, kx_c2, kx_pl, kx_cmp, kx_oF, kx_eqN, kx_nil, kx_c1, kx_ft, kx_aI, kx_aL, kx_aR, kx_ln, Nat.reduceAdd, Option.toList, List.cons_append, List.nil_append, cf8_0, cf8_2, cf8_9, cf9_16]
            repeat (simp only [cx_8w0 hw, cx_8o, cx_83 hw, cx_84 hw, hQ, hs, pk_us, pk_un, ne_eq, Nat.reduceEqDiff, not_false_eq_true, hE.2.1, cx_8n (show ¬ (67:Nat) = 68 by decide), cx_f67 hw, hT, nI_clamp (show ck_sk T n S1.1 < 2 ^ 31 by omega), nI_1, ks_eq, ks_ss]; try dsimp only [kx_wp, kx_step, kx_lI, kx_lL, kx_lA, kx_gl, kx_pI, kx_pL, kx_pR, kx_pA, kx_pV, kx_s1, kx_s2, kx_sl, kx_pre, kx_c2, kx_pl, kx_cmp, kx_oF, kx_eqN, kx_nil, kx_c1, kx_ft, kx_aI, kx_aL, kx_aR, kx_ln, Nat.reduceAdd, Option.toList, List.cons_append, List.nil_append, cf8_0, cf8_2, cf8_9, cf9_16])
            repeat' apply And.intro
            all_goals try (first | with_reducible assumption | (with_reducible refine ck_nzI ?_; simp; done) | (with_reducible refine ck_nzL ?_; simp; done) | (with_reducible refine vp_in_nI ?_ ?_ <;> first | omega | decide) | (with_reducible refine Nat.le_of_ble_eq_true ?_; rfl) | omega | exact Or.inl trivial | exact Or.inr trivial | exact Or.inl rfl | exact Or.inr rfl)
            refine hC.1 54 _ _ _ _ _ _ _ 8 _ _ _ _ _ _ _ _ _ _ _ _ lX8_54 (hn43) ⟨by decide, rfl⟩ (cx_8o) rfl rfl (Nat.le_of_ble_eq_true rfl) (by first | decide | omega) (by decide) (by omega) (by omega) dX8_readSum_21 ?_
            refine hB bX8_readSum_24 _ _ _ _ _ _ _ kX8_readSum_24 ?_
            dsimp only [bX8_readSum_24, kx_wp, kx_step, kx_lI, kx_lL, kx_lA, kx_gl, kx_pI, kx_pL, kx_pR, kx_pA, kx_pV, kx_s1, kx_s2, kx_sl, kx_pre, kx_c2, kx_pl, kx_cmp, kx_oF, kx_eqN, kx_nil, kx_c1, kx_ft, kx_aI, kx_aL, kx_aR, kx_ln, Nat.reduceAdd, Option.toList, List.cons_append, List.nil_append, cf8_0, cf8_2, cf8_9, cf9_16]
            repeat (simp only [cx_8w0 hw, cx_8o, cx_83 hw, cx_84 hw, hQ, hs, pk_us, pk_un, ne_eq, Nat.reduceEqDiff, not_false_eq_true, hE.2.1, cx_8n (show ¬ (67:Nat) = 68 by decide), cx_f67 hw, hT, nI_clamp (show ck_sk T n S1.1 < 2 ^ 31 by omega), nI_1, ks_eq, ks_ss]; try dsimp only [kx_wp, kx_step, kx_lI, kx_lL, kx_lA, kx_gl, kx_pI, kx_pL, kx_pR, kx_pA, kx_pV, kx_s1, kx_s2, kx_sl, kx_pre, kx_c2, kx_pl, kx_cmp, kx_oF, kx_eqN, kx_nil, kx_c1, kx_ft, kx_aI, kx_aL, kx_aR, kx_ln, Nat.reduceAdd, Option.toList, List.cons_append, List.nil_append, cf8_0, cf8_2, cf8_9, cf9_16])
            repeat' apply And.intro
            all_goals try (first | with_reducible assumption | (with_reducible refine ck_nzI ?_; simp; done) | (with_reducible refine ck_nzL ?_; simp; done) | (with_reducible refine vp_in_nI ?_ ?_ <;> first | omega | decide) | (with_reducible refine Nat.le_of_ble_eq_true ?_; rfl) | omega | exact Or.inl trivial | exact Or.inr trivial | exact Or.inl rfl | exact Or.inr rfl)
            · intro zc24
              first | exact absurd rfl zc24 | exact absurd zc24 (by decide) | exact absurd (by decide) zc24 | (exfalso; first | exact zc47 (by rw [hTs]; decide) | exact zc47 hTs | exact absurd ((nI_leI (a := 400) (b := i) (by omega) (by omega)).mp zc15) (by omega)) | (exfalso; simp_all; done)
            · intro zc24
              with_reducible first | have ze24 := Decidable.not_not.mp zc24 | have ze24 := zc24
              refine hB bX8_readSum_27 _ _ _ _ _ _ _ kX8_readSum_27 ?_
              dsimp only [bX8_readSum_27, kx_wp, kx_step, kx_lI, kx_lL, kx_lA, kx_gl, kx_pI, kx_pL, kx_pR, kx_pA, kx_pV, kx_s1, kx_s2, kx_sl, kx_pre, kx_c2, kx_pl, kx_cmp, kx_oF, kx_eqN, kx_nil, kx_c1, kx_ft, kx_aI, kx_aL, kx_aR, kx_ln, Nat.reduceAdd, Option.toList, List.cons_append, List.nil_append, cf8_0, cf8_2, cf8_9, cf9_16]
              repeat (simp only [cx_8w0 hw, cx_8o, cx_83 hw, cx_84 hw, hQ, hs, pk_us, pk_un, ne_eq, Nat.reduceEqDiff, not_false_eq_true, hE.2.1, cx_8n (show ¬ (67:Nat) = 68 by decide), cx_f67 hw, hT, nI_clamp (show ck_sk T n S1.1 < 2 ^ 31 by omega), nI_1, ks_eq, ks_ss]; try dsimp only [kx_wp, kx_step, kx_lI, kx_lL, kx_lA, kx_gl, kx_pI, kx_pL, kx_pR, kx_pA, kx_pV, kx_s1, kx_s2, kx_sl, kx_pre, kx_c2, kx_pl, kx_cmp, kx_oF, kx_eqN, kx_nil, kx_c1, kx_ft, kx_aI, kx_aL, kx_aR, kx_ln, Nat.reduceAdd, Option.toList, List.cons_append, List.nil_append, cf8_0, cf8_2, cf8_9, cf9_16])
              repeat' apply And.intro
              all_goals try (first | with_reducible assumption | (with_reducible refine ck_nzI ?_; simp; done) | (with_reducible refine ck_nzL ?_; simp; done) | (with_reducible refine vp_in_nI ?_ ?_ <;> first | omega | decide) | (with_reducible refine Nat.le_of_ble_eq_true ?_; rfl) | omega | exact Or.inl trivial | exact Or.inr trivial | exact Or.inl rfl | exact Or.inr rfl)
              refine hC.1 54 _ _ _ _ _ _ _ 8 _ _ _ _ _ _ _ _ _ _ _ _ lX8_54 (hn45) ⟨by decide, rfl⟩ (cx_8o) rfl rfl (Nat.le_of_ble_eq_true rfl) (by first | decide | omega) (by decide) (by omega) (by omega) dX8_readSum_30 ?_
              refine hB bX8_readSum_33 _ _ _ _ _ _ _ kX8_readSum_33 ?_
              dsimp only [bX8_readSum_33, kx_wp, kx_step, kx_lI, kx_lL, kx_lA, kx_gl, kx_pI, kx_pL, kx_pR, kx_pA, kx_pV, kx_s1, kx_s2, kx_sl, kx_pre, kx_c2, kx_pl, kx_cmp, kx_oF, kx_eqN, kx_nil, kx_c1, kx_ft, kx_aI, kx_aL, kx_aR, kx_ln, Nat.reduceAdd, Option.toList, List.cons_append, List.nil_append, cf8_0, cf8_2, cf8_9, cf9_16]
              repeat (simp only [cx_8w0 hw, cx_8o, cx_83 hw, cx_84 hw, hQ, hs, pk_us, pk_un, ne_eq, Nat.reduceEqDiff, not_false_eq_true, hE.2.1, cx_8n (show ¬ (67:Nat) = 68 by decide), cx_f67 hw, hT, nI_clamp (show ck_sk T n S1.1 < 2 ^ 31 by omega), nI_1, ks_eq, ks_ss]; try dsimp only [kx_wp, kx_step, kx_lI, kx_lL, kx_lA, kx_gl, kx_pI, kx_pL, kx_pR, kx_pA, kx_pV, kx_s1, kx_s2, kx_sl, kx_pre, kx_c2, kx_pl, kx_cmp, kx_oF, kx_eqN, kx_nil, kx_c1, kx_ft, kx_aI, kx_aL, kx_aR, kx_ln, Nat.reduceAdd, Option.toList, List.cons_append, List.nil_append, cf8_0, cf8_2, cf8_9, cf9_16])
              repeat' apply And.intro
              all_goals try (first | with_reducible assumption | (with_reducible refine ck_nzI ?_; simp; done) | (with_reducible refine ck_nzL ?_; simp; done) | (with_reducible refine vp_in_nI ?_ ?_ <;> first | omega | decide) | (with_reducible refine Nat.le_of_ble_eq_true ?_; rfl) | omega | exact Or.inl trivial | exact Or.inr trivial | exact Or.inl rfl | exact Or.inr rfl)
              · intro zc33
                have ze33 := zc33
                refine hB bX8_readSum_96 _ _ _ _ _ _ _ kX8_readSum_96 ?_
                dsimp only [bX8_readSum_96, kx_wp, kx_step, kx_lI, kx_lL, kx_lA, kx_gl, kx_pI, kx_pL, kx_pR, kx_pA, kx_pV, kx_s1, kx_s2, kx_sl, kx_pre, kx_c2, kx_pl, kx_cmp, kx_oF, kx_eqN, kx_nil, kx_c1, kx_ft, kx_aI, kx_aL, kx_aR, kx_ln, Nat.reduceAdd, Option.toList, List.cons_append, List.nil_append, cf8_0, cf8_2, cf8_9, cf9_16]
                repeat (simp only [cx_8w0 hw, cx_8o, cx_83 hw, cx_84 hw, hQ, hs, pk_us, pk_un, ne_eq, Nat.reduceEqDiff, not_false_eq_true, hE.2.1, cx_8n (show ¬ (67:Nat) = 68 by decide), cx_f67 hw, hT, nI_clamp (show ck_sk T n S1.1 < 2 ^ 31 by omega), nI_1, ks_eq, ks_ss]; try dsimp only [kx_wp, kx_step, kx_lI, kx_lL, kx_lA, kx_gl, kx_pI, kx_pL, kx_pR, kx_pA, kx_pV, kx_s1, kx_s2, kx_sl, kx_pre, kx_c2, kx_pl, kx_cmp, kx_oF, kx_eqN, kx_nil, kx_c1, kx_ft, kx_aI, kx_aL, kx_aR, kx_ln, Nat.reduceAdd, Option.toList, List.cons_append, List.nil_append, cf8_0, cf8_2, cf8_9, cf9_16])
                all_goals (repeat' apply And.intro)
                all_goals (rw [hR]; first | exact cx_PE.f hg (hX hg) | exact cx_PE.t hg hER)
              · intro zc33
                first | exact absurd rfl zc33 | exact absurd zc33 (by decide) | exact absurd (by decide) zc33 | (exfalso; first | exact zc47 (by rw [hTs]; decide) | exact zc47 hTs | exact absurd ((nI_leI (a := 400) (b := i) (by omega) (by omega)).mp zc15) (by omega)) | (exfalso; simp_all; done)
      · rw [cx_b1 hg]
        have hle := ck_sk_le T hsl1.1
        have hE := hE hg
        have hTf : cx_fW Q w Fo1 st1 67 = kI 0 400 T := (cx_f67 hw).trans hT
        have hlt : ck_sk T n S1.1 < n := cx_nx_lt hop (by decide)
        have hTs : T (ck_sk T n S1.1) = 43 := (if_pos hlt).symm.trans hop
        have hn43 := ct_X8_nextIs_t (l := l) (G := G) (sz := sz) (x := .ref w) hTf hE.1 hn hE.2.1 hle.2 (ch := 43) (by decide) hop
        have hE2 : cx_E T n (ck_sk T n S1.1 + 1, S1.2) (upd F1 2 (nI (ck_sk T n (ck_sk T n S1.1 + 1)))) Fo1 st1 := ⟨hE.1, rfl, hE.2.2.1, hE.2.2.2.1, hE.2.2.2.2.1, hE.2.2.2.2.2.1, hE.2.2.2.2.2.2⟩
        have hslA : ck_sl n 0 (ck_sk T n S1.1 + 1, S1.2) := ⟨hlt, fun q => Nat.le_trans (hsl1.2 hg) (Nat.le_succ_of_le hle.1)⟩
        have hlvA : ck_lv N (ck_sk T n S1.1 + 1, S1.2) := fun q => hlv1 hg
        obtain ⟨o1, o2⟩ := ck_one_g (T := T) (w := 4) hUg hsl1 hg (show ¬ ck_hcx T n S1.1 = 0 by rw [hop]; decide)
        have hUA := hUg 1 (ck_sk T n S1.1 + 1, S1.2) ⟨hlt, fun q => by have := hsl1.2 hg; show S1.2.2.2.2.1 + 1 ≤ ck_sk T n S1.1 + 1; omega⟩
        have he9 : (if S1.2.1 = -1 ∧ (ck_hcx T n S1.1 = 43 ∨ ck_hcx T n S1.1 = 45) then ck_lpw T n U n9 (ck_one T n U (if ck_hcx T n S1.1 = 43 then 4 else 5) S1) else ck_ex T n S1) = ck_lpwT T n U S := he9
        rw [if_pos ⟨hg, (fun z => Or.inl <| z) hop⟩, if_pos hop] at he9
        have h99 : ck_one T n U 4 S1 = ck_emR 4 0 (U (ck_sk T n S1.1 + 1, S1.2)) := if_pos hg9
        rw [h99] at o1 o2 he9
        have hb9 := cx_b1 hg9
        have hc4 : (U (ck_sk T n S1.1 + 1, S1.2)).2.2.2.2.1 < 400 := by have := hUA.1.2 hg9; have := hUA.1.1; omega
        refine hB bX8_readSum_7 _ _ _ _ _ _ _ kX8_readSum_7 ?_
        dsimp only [bX8_readSum_7, kx_wp, kx_step, kx_lI, kx_lL, kx_lA, kx_gl, kx_pI, kx_pL, kx_pR, kx_pA, kx_pV, kx_s1, kx_s2, kx_sl, kx_pre, kx_c2, kx_pl, kx_cmp, kx_oF, kx_eqN, kx_nil, kx_c1, kx_ft, kx_aI, kx_aL, kx_aR, kx_ln, Nat.reduceAdd, Option.toList, List.cons_append, List.nil_append, cf8_0, cf8_2, cf8_9, cf9_16]
        repeat (simp only [cx_8w0 hw, cx_8o, cx_83 hw, cx_84 hw, hQ, hs, pk_us, pk_un, ne_eq, Nat.reduceEqDiff, not_false_eq_true, hE.2.1, cx_8n (show ¬ (67:Nat) = 68 by decide), cx_f67 hw, hT, nI_clamp (show ck_sk T n S1.1 < 2 ^ 31 by omega), nI_1, ks_eq, ks_ss]; try dsimp only [kx_wp, kx_step, kx_lI, kx_lL, kx_lA, kx_gl, kx_pI, kx_pL, kx_pR, kx_pA, kx_pV, kx_s1, kx_s2, kx_sl, kx_pre, kx_c2, kx_pl, kx_cmp, kx_oF, kx_eqN, kx_nil, kx_c1, kx_ft, kx_aI, kx_aL, kx_aR, kx_ln, Nat.reduceAdd, Option.toList, List.cons_append, List.nil_append, cf8_0, cf8_2, cf8_9, cf9_16])
        repeat' apply And.intro
        all_goals try (first | with_reducible assumption | (with_reducible refine ck_nzI ?_; simp; done) | (with_reducible refine ck_nzL ?_; simp; done) | (with_reducible refine vp_in_nI ?_ ?_ <;> first | omega | decide) | (with_reducible refine Nat.le_of_ble_eq_true ?_; rfl) | omega | exact Or.inl trivial | exact Or.inr trivial | exact Or.inl rfl | exact Or.inr rfl)
        · intro zc8
          first | exact absurd rfl zc8 | exact absurd zc8 (by decide) | exact absurd (by decide) zc8 | (exfalso; first | exact zc47 (by rw [hTs]; decide) | exact zc47 hTs | exact absurd ((nI_leI (a := 400) (b := i) (by omega) (by omega)).mp zc15) (by omega)) | (exfalso; simp_all; done)
        · intro zc8
          have ze8 := zc8
          refine hB bX8_readSum_11 _ _ _ _ _ _ _ kX8_readSum_11 ?_
          dsimp only [bX8_readSum_11, kx_wp, kx_step, kx_lI, kx_lL, kx_lA, kx_gl, kx_pI, kx_pL, kx_pR, kx_pA, kx_pV, kx_s1, kx_s2, kx_sl, kx_pre, kx_c2, kx_pl, kx_cmp, kx_oF, kx_eqN, kx_nil, kx_c1, kx_ft, kx_aI, kx_aL, kx_aR, kx_ln, Nat.reduceAdd, Option.toList, List.cons_append, List.nil_append, cf8_0, cf8_2, cf8_9, cf9_16]
          repeat (simp only [cx_8w0 hw, cx_8o, cx_83 hw, cx_84 hw, hQ, hs, pk_us, pk_un, ne_eq, Nat.reduceEqDiff, not_false_eq_true, hE.2.1, cx_8n (show ¬ (67:Nat) = 68 by decide), cx_f67 hw, hT, nI_clamp (show ck_sk T n S1.1 < 2 ^ 31 by omega), nI_1, ks_eq, ks_ss]; try dsimp only [kx_wp, kx_step, kx_lI, kx_lL, kx_lA, kx_gl, kx_pI, kx_pL, kx_pR, kx_pA, kx_pV, kx_s1, kx_s2, kx_sl, kx_pre, kx_c2, kx_pl, kx_cmp, kx_oF, kx_eqN, kx_nil, kx_c1, kx_ft, kx_aI, kx_aL, kx_aR, kx_ln, Nat.reduceAdd, Option.toList, List.cons_append, List.nil_append, cf8_0, cf8_2, cf8_9, cf9_16])
          repeat' apply And.intro
          all_goals try (first | with_reducible assumption | (with_reducible refine ck_nzI ?_; simp; done) | (with_reducible refine ck_nzL ?_; simp; done) | (with_reducible refine vp_in_nI ?_ ?_ <;> first | omega | decide) | (with_reducible refine Nat.le_of_ble_eq_true ?_; rfl) | omega | exact Or.inl trivial | exact Or.inr trivial | exact Or.inl rfl | exact Or.inr rfl)
          · intro zc15
            first | exact absurd rfl zc15 | exact absurd zc15 (by decide) | exact absurd (by decide) zc15 | (exfalso; first | exact zc47 (by rw [hTs]; decide) | exact zc47 hTs | exact absurd ((nI_leI (a := 400) (b := i) (by omega) (by omega)).mp zc15) (by omega)) | (exfalso; simp_all; done)
          · intro zc15
            with_reducible first | have ze15 := Int32.not_le.mp zc15 | have ze15 := zc15
            refine hB bX8_readSum_18 _ _ _ _ _ _ _ kX8_readSum_18 ?_
            dsimp only [bX8_readSum_18, kx_wp, kx_step, kx_lI, kx_lL, kx_lA, kx_gl, kx_pI, kx_pL, kx_pR, kx_pA, kx_pV, kx_s1, kx_s2, kx_sl, kx_pre, kx_c2, kx_pl, kx_cmp, kx_oF, kx_eqN, kx_nil, kx_c1, kx_ft, kx_aI, kx_aL, kx_aR, kx_ln, Nat.reduceAdd, Option.toList, List.cons_append, List.nil_append, cf8_0, cf8_2, cf8_9, cf9_16]
            repeat (simp only [cx_8w0 hw, cx_8o, cx_83 hw, cx_84 hw, hQ, hs, pk_us, pk_un, ne_eq, Nat.reduceEqDiff, not_false_eq_true, hE.2.1, cx_8n (show ¬ (67:Nat) = 68 by decide), cx_f67 hw, hT, nI_clamp (show ck_sk T n S1.1 < 2 ^ 31 by omega), nI_1, ks_eq, ks_ss]; try dsimp only [kx_wp, kx_step, kx_lI, kx_lL, kx_lA, kx_gl, kx_pI, kx_pL, kx_pR, kx_pA, kx_pV, kx_s1, kx_s2, kx_sl, kx_pre, kx_c2, kx_pl, kx_cmp, kx_oF, kx_eqN, kx_nil, kx_c1, kx_ft, kx_aI, kx_aL, kx_aR, kx_ln, Nat.reduceAdd, Option.toList, List.cons_append, List.nil_append, cf8_0, cf8_2, cf8_9, cf9_16])
            repeat' apply And.intro
            all_goals try (first | with_reducible assumption | (with_reducible refine ck_nzI ?_; simp; done) | (with_reducible refine ck_nzL ?_; simp; done) | (with_reducible refine vp_in_nI ?_ ?_ <;> first | omega | decide) | (with_reducible refine Nat.le_of_ble_eq_true ?_; rfl) | omega | exact Or.inl trivial | exact Or.inr trivial | exact Or.inl rfl | exact Or.inr rfl)
            refine hC.1 54 _ _ _ _ _ _ _ 8 _ _ _ _ _ _ _ _ _ _ _ _ lX8_54 (hn43) ⟨by decide, rfl⟩ (cx_8o) rfl rfl (Nat.le_of_ble_eq_true rfl) (by first | decide | omega) (by decide) (by omega) (by omega) dX8_readSum_21 ?_
            refine hB bX8_readSum_24 _ _ _ _ _ _ _ kX8_readSum_24 ?_
            dsimp only [bX8_readSum_24, kx_wp, kx_step, kx_lI, kx_lL, kx_lA, kx_gl, kx_pI, kx_pL, kx_pR, kx_pA, kx_pV, kx_s1, kx_s2, kx_sl, kx_pre, kx_c2, kx_pl, kx_cmp, kx_oF, kx_eqN, kx_nil, kx_c1, kx_ft, kx_aI, kx_aL, kx_aR, kx_ln, Nat.reduceAdd, Option.toList, List.cons_append, List.nil_append, cf8_0, cf8_2, cf8_9, cf9_16]
            repeat (simp only [cx_8w0 hw, cx_8o, cx_83 hw, cx_84 hw, hQ, hs, pk_us, pk_un, ne_eq, Nat.reduceEqDiff, not_false_eq_true, hE.2.1, cx_8n (show ¬ (67:Nat) = 68 by decide), cx_f67 hw, hT, nI_clamp (show ck_sk T n S1.1 < 2 ^ 31 by omega), nI_1, ks_eq, ks_ss]; try dsimp only [kx_wp, kx_step, kx_lI, kx_lL, kx_lA, kx_gl, kx_pI, kx_pL, kx_pR, kx_pA, kx_pV, kx_s1, kx_s2, kx_sl, kx_pre, kx_c2, kx_pl, kx_cmp, kx_oF, kx_eqN, kx_nil, kx_c1, kx_ft, kx_aI, kx_aL, kx_aR, kx_ln, Nat.reduceAdd, Option.toList, List.cons_append, List.nil_append, cf8_0, cf8_2, cf8_9, cf9_16])
            repeat' apply And.intro
            all_goals try (first | with_reducible assumption | (with_reducible refine ck_nzI ?_; simp; done) | (with_reducible refine ck_nzL ?_; simp; done) | (with_reducible refine vp_in_nI ?_ ?_ <;> first | omega | decide) | (with_reducible refine Nat.le_of_ble_eq_true ?_; rfl) | omega | exact Or.inl trivial | exact Or.inr trivial | exact Or.inl rfl | exact Or.inr rfl)
            · intro zc24
              have ze24 := zc24
              refine hB bX8_readSum_36 _ _ _ _ _ _ _ kX8_readSum_36 ?_
              dsimp only [bX8_readSum_36, kx_wp, kx_step, kx_lI, kx_lL, kx_lA, kx_gl, kx_pI, kx_pL, kx_pR, kx_pA, kx_pV, kx_s1, kx_s2, kx_sl, kx_pre, kx_c2, kx_pl, kx_cmp, kx_oF, kx_eqN, kx_nil, kx_c1, kx_ft, kx_aI, kx_aL, kx_aR, kx_ln, Nat.reduceAdd, Option.toList, List.cons_append, List.nil_append, cf8_0, cf8_2, cf8_9, cf9_16]
              repeat (simp only [cx_8w0 hw, cx_8o, cx_83 hw, cx_84 hw, hQ, hs, pk_us, pk_un, ne_eq, Nat.reduceEqDiff, not_false_eq_true, hE.2.1, cx_8n (show ¬ (67:Nat) = 68 by decide), cx_f67 hw, hT, nI_clamp (show ck_sk T n S1.1 < 2 ^ 31 by omega), nI_1, ks_eq, ks_ss]; try dsimp only [kx_wp, kx_step, kx_lI, kx_lL, kx_lA, kx_gl, kx_pI, kx_pL, kx_pR, kx_pA, kx_pV, kx_s1, kx_s2, kx_sl, kx_pre, kx_c2, kx_pl, kx_cmp, kx_oF, kx_eqN, kx_nil, kx_c1, kx_ft, kx_aI, kx_aL, kx_aR, kx_ln, Nat.reduceAdd, Option.toList, List.cons_append, List.nil_append, cf8_0, cf8_2, cf8_9, cf9_16])
              repeat' apply And.intro
              all_goals try (first | with_reducible assumption | (with_reducible refine ck_nzI ?_; simp; done) | (with_reducible refine ck_nzL ?_; simp; done) | (with_reducible refine vp_in_nI ?_ ?_ <;> first | omega | decide) | (with_reducible refine Nat.le_of_ble_eq_true ?_; rfl) | omega | exact Or.inl trivial | exact Or.inr trivial | exact Or.inl rfl | exact Or.inr rfl)
              · intro zc47
                first | exact absurd rfl zc47 | exact absurd zc47 (by decide) | exact absurd (by decide) zc47 | (exfalso; first | exact zc47 (by rw [hTs]; decide) | exact zc47 hTs | exact absurd ((nI_leI (a := 400) (b := i) (by omega) (by omega)).mp zc15) (by omega)) | (exfalso; simp_all; done)
              · intro zc47
                with_reducible first | have ze47 := Decidable.not_not.mp zc47 | have ze47 := zc47
                refine hB bX8_readSum_50 _ _ _ _ _ _ _ kX8_readSum_50 ?_
                dsimp only [bX8_readSum_50, kx_wp, kx_step, kx_lI, kx_lL, kx_lA, kx_gl, kx_pI, kx_pL, kx_pR, kx_pA, kx_pV, kx_s1, kx_s2, kx_sl, kx_pre, kx_c2, kx_pl, kx_cmp, kx_oF, kx_eqN, kx_nil, kx_c1, kx_ft, kx_aI, kx_aL, kx_aR, kx_ln, Nat.reduceAdd, Option.toList, List.cons_append, List.nil_append, cf8_0, cf8_2, cf8_9, cf9_16]
                repeat (simp only [cx_8w0 hw, cx_8o, cx_83 hw, cx_84 hw, hQ, hs, pk_us, pk_un, ne_eq, Nat.reduceEqDiff, not_false_eq_true, hE.2.1, cx_8n (show ¬ (67:Nat) = 68 by decide), cx_f67 hw, hT, nI_clamp (show ck_sk T n S1.1 < 2 ^ 31 by omega), nI_1, ks_eq, ks_ss]; try dsimp only [kx_wp, kx_step, kx_lI, kx_lL, kx_lA, kx_gl, kx_pI, kx_pL, kx_pR, kx_pA, kx_pV, kx_s1, kx_s2, kx_sl, kx_pre, kx_c2, kx_pl, kx_cmp, kx_oF, kx_eqN, kx_nil, kx_c1, kx_ft, kx_aI, kx_aL, kx_aR, kx_ln, Nat.reduceAdd, Option.toList, List.cons_append, List.nil_append, cf8_0, cf8_2, cf8_9, cf9_16])
                repeat' apply And.intro
                all_goals try (first | with_reducible assumption | (with_reducible refine ck_nzI ?_; simp; done) | (with_reducible refine ck_nzL ?_; simp; done) | (with_reducible refine vp_in_nI ?_ ?_ <;> first | omega | decide) | (with_reducible refine Nat.le_of_ble_eq_true ?_; rfl) | omega | exact Or.inl trivial | exact Or.inr trivial | exact Or.inl rfl | exact Or.inr rfl)
                refine hB bX8_readSum_57 _ _ _ _ _ _ _ kX8_readSum_57 ?_
                dsimp only [bX8_readSum_57, kx_wp, kx_step, kx_lI, kx_lL, kx_lA, kx_gl, kx_pI, kx_pL, kx_pR, kx_pA, kx_pV, kx_s1, kx_s2, kx_sl, kx_pre, kx_c2, kx_pl, kx_cmp, kx_oF, kx_eqN, kx_nil, kx_c1, kx_ft, kx_aI, kx_aL, kx_aR, kx_ln, Nat.reduceAdd, Option.toList, List.cons_append, List.nil_append, cf8_0, cf8_2, cf8_9, cf9_16]
                repeat (simp only [cx_8w0 hw, cx_8o, cx_83 hw, cx_84 hw, hQ, hs, pk_us, pk_un, ne_eq, Nat.reduceEqDiff, not_false_eq_true, hE.2.1, cx_8n (show ¬ (67:Nat) = 68 by decide), cx_f67 hw, hT, nI_clamp (show ck_sk T n S1.1 < 2 ^ 31 by omega), nI_1, ks_eq, ks_ss]; try dsimp only [kx_wp, kx_step, kx_lI, kx_lL, kx_lA, kx_gl, kx_pI, kx_pL, kx_pR, kx_pA, kx_pV, kx_s1, kx_s2, kx_sl, kx_pre, kx_c2, kx_pl, kx_cmp, kx_oF, kx_eqN, kx_nil, kx_c1, kx_ft, kx_aI, kx_aL, kx_aR, kx_ln, Nat.reduceAdd, Option.toList, List.cons_append, List.nil_append, cf8_0, cf8_2, cf8_9, cf9_16])
                repeat' apply And.intro
                all_goals try (first | with_reducible assumption | (with_reducible refine ck_nzI ?_; simp; done) | (with_reducible refine ck_nzL ?_; simp; done) | (with_reducible refine vp_in_nI ?_ ?_ <;> first | omega | decide) | (with_reducible refine Nat.le_of_ble_eq_true ?_; rfl) | omega | exact Or.inl trivial | exact Or.inr trivial | exact Or.inl rfl | exact Or.inr rfl)
                refine hC.1 46 _ _ _ _ _ _ _ 8 _ _ _ _ _ _ _ _ _ _ _ _ lX8_46 (ct_X8_skip1 l G (x := .ref w) hTf hE.1 hn hE.2.1 hlt) ⟨by decide, rfl⟩ (cx_8o) rfl rfl (Nat.le_of_ble_eq_true rfl) (by first | decide | omega) (by decide) (by omega) (by omega) dX8_readSum_60 ?_
                dsimp only [Option.toList, List.cons_append, List.nil_append]
                refine hB bX8_readSum_63 _ _ _ _ _ _ _ kX8_readSum_63 ?_
                dsimp only [bX8_readSum_63, kx_wp, kx_step, kx_lI, kx_lL, kx_lA, kx_gl, kx_pI, kx_pL, kx_pR, kx_pA, kx_pV, kx_s1, kx_s2, kx_sl, kx_pre, kx_c2, kx_pl, kx_cmp, kx_oF, kx_eqN, kx_nil, kx_c1, kx_ft, kx_aI, kx_aL, kx_aR, kx_ln, Nat.reduceAdd, Option.toList, List.cons_append, List.nil_append, cf8_0, cf8_2, cf8_9, cf9_16]
                repeat (simp only [cx_8w0 hw, cx_8o, cx_83 hw, cx_84 hw, hQ, hs, pk_us, pk_un, ne_eq, Nat.reduceEqDiff, not_false_eq_true, hE.2.1, cx_8n (show ¬ (67:Nat) = 68 by decide), cx_f67 hw, hT, nI_clamp (show ck_sk T n S1.1 < 2 ^ 31 by omega), nI_1, ks_eq, ks_ss]; try dsimp only [kx_wp, kx_step, kx_lI, kx_lL, kx_lA, kx_gl, kx_pI, kx_pL, kx_pR, kx_pA, kx_pV, kx_s1, kx_s2, kx_sl, kx_pre, kx_c2, kx_pl, kx_cmp, kx_oF, kx_eqN, kx_nil, kx_c1, kx_ft, kx_aI, kx_aL, kx_aR, kx_ln, Nat.reduceAdd, Option.toList, List.cons_append, List.nil_append, cf8_0, cf8_2, cf8_9, cf9_16])
                repeat' apply And.intro
                all_goals try (first | with_reducible assumption | (with_reducible refine ck_nzI ?_; simp; done) | (with_reducible refine ck_nzL ?_; simp; done) | (with_reducible refine vp_in_nI ?_ ?_ <;> first | omega | decide) | (with_reducible refine Nat.le_of_ble_eq_true ?_; rfl) | omega | exact Or.inl trivial | exact Or.inr trivial | exact Or.inl rfl | exact Or.inr rfl)
                refine hN.1 201 _ _ _ _ _ _ _ 8 _ _ _ _ _ _ _ _ _ _ lX8_201 (hU (ck_sk T n S1.1 + 1, S1.2) hg hslA hlvA _ _ _ hE2) ⟨by decide, rfl⟩ (cx_8o) rfl rfl (Nat.le_of_ble_eq_true rfl) (by omega) (by decide) (by omega) (by omega) dX8_readSum_64 ?_
                rintro r2 P2 s2 ⟨F2, Fo2, st2, rfl, rfl, rfl, hE3, hX3⟩
                rw [hb9]
                dsimp only [Option.toList, List.cons_append, List.nil_append]
                refine hB bX8_readSum_67 _ _ _ _ _ _ _ kX8_readSum_67 ?_
                dsimp only [bX8_readSum_67, kx_wp, kx_step, kx_lI, kx_lL, kx_lA, kx_gl, kx_pI, kx_pL, kx_pR, kx_pA, kx_pV, kx_s1, kx_s2, kx_sl, kx_pre, kx_c2, kx_pl, kx_cmp, kx_oF, kx_eqN, kx_nil, kx_c1, kx_ft, kx_aI, kx_aL, kx_aR, kx_ln, Nat.reduceAdd, Option.toList, List.cons_append, List.nil_append, cf8_0, cf8_2, cf8_9, cf9_16]
                repeat (simp only [cx_8w0 hw, cx_8o, cx_83 hw, cx_84 hw, hQ, hs, pk_us, pk_un, ne_eq, Nat.reduceEqDiff, not_false_eq_true, hE.2.1, cx_8n (show ¬ (67:Nat) = 68 by decide), cx_f67 hw, hT, nI_clamp (show ck_sk T n S1.1 < 2 ^ 31 by omega), nI_1, ks_eq, ks_ss]; try dsimp only [kx_wp, kx_step, kx_lI, kx_lL, kx_lA, kx_gl, kx_pI, kx_pL, kx_pR, kx_pA, kx_pV, kx_s1, kx_s2, kx_sl, kx_pre, kx_c2, kx_pl, kx_cmp, kx_oF, kx_eqN, kx_nil, kx_c1, kx_ft, kx_aI, kx_aL, kx_aR, kx_ln, Nat.reduceAdd, Option.toList, List.cons_append, List.nil_append, cf8_0, cf8_2, cf8_9, cf9_16])
                repeat' apply And.intro
                all_goals try (first | with_reducible assumption | (with_reducible refine ck_nzI ?_; simp; done) | (with_reducible refine ck_nzL ?_; simp; done) | (with_reducible refine vp_in_nI ?_ ?_ <;> first | omega | decide) | (with_reducible refine Nat.le_of_ble_eq_true ?_; rfl) | omega | exact Or.inl trivial | exact Or.inr trivial | exact Or.inl rfl | exact Or.inr rfl)
                · intro zc67
                  first | exact absurd rfl zc67 | exact absurd zc67 (by decide) | exact absurd (by decide) zc67 | (exfalso; first | exact zc47 (by rw [hTs]; decide) | exact zc47 hTs | exact absurd ((nI_leI (a := 400) (b := i) (by omega) (by omega)).mp zc15) (by omega)) | (exfalso; simp_all; done)
                · intro zc67
                  have ze67 := zc67
                  refine hB bX8_readSum_70 _ _ _ _ _ _ _ kX8_readSum_70 ?_
                  dsimp only [bX8_readSum_70, kx_wp, kx_step, kx_lI, kx_lL, kx_lA, kx_gl, kx_pI, kx_pL, kx_pR, kx_pA, kx_pV, kx_s1, kx_s2, kx_sl, kx_pre, kx_c2, kx_pl, kx_cmp, kx_oF, kx_eqN, kx_nil, kx_c1, kx_ft, kx_aI, kx_aL, kx_aR, kx_ln, Nat.reduceAdd, Option.toList, List.cons_append, List.nil_append, cf8_0, cf8_2, cf8_9, cf9_16]
                  repeat (simp only [cx_8w0 hw, cx_8o, cx_83 hw, cx_84 hw, hQ, hs, pk_us, pk_un, ne_eq, Nat.reduceEqDiff, not_false_eq_true, hE.2.1, cx_8n (show ¬ (67:Nat) = 68 by decide), cx_f67 hw, hT, nI_clamp (show ck_sk T n S1.1 < 2 ^ 31 by omega), nI_1, ks_eq, ks_ss]; try dsimp only [kx_wp, kx_step, kx_lI, kx_lL, kx_lA, kx_gl, kx_pI, kx_pL, kx_pR, kx_pA, kx_pV, kx_s1, kx_s2, kx_sl, kx_pre, kx_c2, kx_pl, kx_cmp, kx_oF, kx_eqN, kx_nil, kx_c1, kx_ft, kx_aI, kx_aL, kx_aR, kx_ln, Nat.reduceAdd, Option.toList, List.cons_append, List.nil_append, cf8_0, cf8_2, cf8_9, cf9_16])
                  repeat' apply And.intro
                  all_goals try (first | with_reducible assumption | (with_reducible refine ck_nzI ?_; simp; done) | (with_reducible refine ck_nzL ?_; simp; done) | (with_reducible refine vp_in_nI ?_ ?_ <;> first | omega | decide) | (with_reducible refine Nat.le_of_ble_eq_true ?_; rfl) | omega | exact Or.inl trivial | exact Or.inr trivial | exact Or.inl rfl | exact Or.inr rfl)
                  refine hC.1 209 _ _ _ _ _ _ _ 2 _ _ _ _ _ _ _ _ _ _ _ _ lX8_209 (ct_X2_add l G (P := Q) hw (hE3 hg9).2.2.2.2.2.1 hc4) ⟨by decide, rfl⟩ (cx_83 hw) rfl rfl (Nat.le_of_ble_eq_true rfl) (by first | decide | omega) (by decide) (by omega) (by omega) dX8_readSum_78 ?_
                  refine hB bX8_readSum_81 _ _ _ _ _ _ _ kX8_readSum_81 ?_
                  dsimp only [bX8_readSum_81, kx_wp, kx_step, kx_lI, kx_lL, kx_lA, kx_gl, kx_pI, kx_pL, kx_pR, kx_pA, kx_pV, kx_s1, kx_s2, kx_sl, kx_pre, kx_c2, kx_pl, kx_cmp, kx_oF, kx_eqN, kx_nil, kx_c1, kx_ft, kx_aI, kx_aL, kx_aR, kx_ln, Nat.reduceAdd, Option.toList, List.cons_append, List.nil_append, cf8_0, cf8_2, cf8_9, cf9_16]
                  repeat (simp only [cx_8w0 hw, cx_8o, cx_83 hw, cx_84 hw, hQ, hs, pk_us, pk_un, ne_eq, Nat.reduceEqDiff, not_false_eq_true, hE.2.1, cx_8n (show ¬ (67:Nat) = 68 by decide), cx_f67 hw, hT, nI_clamp (show ck_sk T n S1.1 < 2 ^ 31 by omega), nI_1, ks_eq, ks_ss]; try dsimp only [kx_wp, kx_step, kx_lI, kx_lL, kx_lA, kx_gl, kx_pI, kx_pL, kx_pR, kx_pA, kx_pV, kx_s1, kx_s2, kx_sl, kx_pre, kx_c2, kx_pl, kx_cmp, kx_oF, kx_eqN, kx_nil, kx_c1, kx_ft, kx_aI, kx_aL, kx_aR, kx_ln, Nat.reduceAdd, Option.toList, List.cons_append, List.nil_append, cf8_0, cf8_2, cf8_9, cf9_16])
                  repeat' apply And.intro
                  all_goals try (first | with_reducible assumption | (with_reducible refine ck_nzI ?_; simp; done) | (with_reducible refine ck_nzL ?_; simp; done) | (with_reducible refine vp_in_nI ?_ ?_ <;> first | omega | decide) | (with_reducible refine Nat.le_of_ble_eq_true ?_; rfl) | omega | exact Or.inl trivial | exact Or.inr trivial | exact Or.inl rfl | exact Or.inr rfl)
                  · intro zc81
                    first | exact absurd rfl zc81 | exact absurd zc81 (by decide) | exact absurd (by decide) zc81 | (exfalso; first | exact zc47 (by rw [hTs]; decide) | exact zc47 hTs | exact absurd ((nI_leI (a := 400) (b := i) (by omega) (by omega)).mp zc15) (by omega)) | (exfalso; simp_all; done)
                  · intro zc81
                    have ze81 := zc81
                    refine hB bX8_readSum_84 _ _ _ _ _ _ _ kX8_readSum_84 ?_
                    dsimp only [bX8_readSum_84, kx_wp, kx_step, kx_lI, kx_lL, kx_lA, kx_gl, kx_pI, kx_pL, kx_pR, kx_pA, kx_pV, kx_s1, kx_s2, kx_sl, kx_pre, kx_c2, kx_pl, kx_cmp, kx_oF, kx_eqN, kx_nil, kx_c1, kx_ft, kx_aI, kx_aL, kx_aR, kx_ln, Nat.reduceAdd, Option.toList, List.cons_append, List.nil_append, cf8_0, cf8_2, cf8_9, cf9_16]
                    repeat (simp only [cx_8w0 hw, cx_8o, cx_83 hw, cx_84 hw, hQ, hs, pk_us, pk_un, ne_eq, Nat.reduceEqDiff, not_false_eq_true, hE.2.1, cx_8n (show ¬ (67:Nat) = 68 by decide), cx_f67 hw, hT, nI_clamp (show ck_sk T n S1.1 < 2 ^ 31 by omega), nI_1, ks_eq, ks_ss]; try dsimp only [kx_wp, kx_step, kx_lI, kx_lL, kx_lA, kx_gl, kx_pI, kx_pL, kx_pR, kx_pA, kx_pV, kx_s1, kx_s2, kx_sl, kx_pre, kx_c2, kx_pl, kx_cmp, kx_oF, kx_eqN, kx_nil, kx_c1, kx_ft, kx_aI, kx_aL, kx_aR, kx_ln, Nat.reduceAdd, Option.toList, List.cons_append, List.nil_append, cf8_0, cf8_2, cf8_9, cf9_16])
                    repeat' apply And.intro
                    all_goals try (first | with_reducible assumption | (with_reducible refine ck_nzI ?_; simp; done) | (with_reducible refine ck_nzL ?_; simp; done) | (with_reducible refine vp_in_nI ?_ ?_ <;> first | omega | decide) | (with_reducible refine Nat.le_of_ble_eq_true ?_; rfl) | omega | exact Or.inl trivial | exact Or.inr trivial | exact Or.inl rfl | exact Or.inr rfl)
                    refine hB bX8_readSum_89 _ _ _ _ _ _ _ kX8_readSum_89 ?_
                    dsimp only [bX8_readSum_89, kx_wp, kx_step, kx_lI, kx_lL, kx_lA, kx_gl, kx_pI, kx_pL, kx_pR, kx_pA, kx_pV, kx_s1, kx_s2, kx_sl, kx_pre, kx_c2, kx_pl, kx_cmp, kx_oF, kx_eqN, kx_nil, kx_c1, kx_ft, kx_aI, kx_aL, kx_aR, kx_ln, Nat.reduceAdd, Option.toList, List.cons_append, List.nil_append, cf8_0, cf8_2, cf8_9, cf9_16]
                    repeat (simp only [cx_8w0 hw, cx_8o, cx_83 hw, cx_84 hw, hQ, hs, pk_us, pk_un, ne_eq, Nat.reduceEqDiff, not_false_eq_true, hE.2.1, cx_8n (show ¬ (67:Nat) = 68 by decide), cx_f67 hw, hT, nI_clamp (show ck_sk T n S1.1 < 2 ^ 31 by omega), nI_1, ks_eq, ks_ss]; try dsimp only [kx_wp, kx_step, kx_lI, kx_lL, kx_lA, kx_gl, kx_pI, kx_pL, kx_pR, kx_pA, kx_pV, kx_s1, kx_s2, kx_sl, kx_pre, kx_c2, kx_pl, kx_cmp, kx_oF, kx_eqN, kx_nil, kx_c1, kx_ft, kx_aI, kx_aL, kx_aR, kx_ln, Nat.reduceAdd, Option.toList, List.cons_append, List.nil_append, cf8_0, cf8_2, cf8_9, cf9_16])
                    repeat' apply And.intro
                    all_goals try (first | with_reducible assumption | (with_reducible refine ck_nzI ?_; simp; done) | (with_reducible refine ck_nzL ?_; simp; done) | (with_reducible refine vp_in_nI ?_ ?_ <;> first | omega | decide) | (with_reducible refine Nat.le_of_ble_eq_true ?_; rfl) | omega | exact Or.inl trivial | exact Or.inr trivial | exact Or.inl rfl | exact Or.inr rfl)
                    have zi := ih (ck_emR 4 0 (U (ck_sk T n S1.1 + 1, S1.2))) F2 _ _ (i + 1) (some (.int (-4))) (fun _ => (hE3 hg9).em (Or.inr ⟨4, by decide, by decide, rfl, rfl⟩)) (fun q => absurd hg9 q) (ck_sl_0 o1.1) (ck_lv_g o1 hlv1) (fun _ => by have := hnn hg; omega) (by omega) he9
                    rw [cx_b1 (show (ck_emR 4 0 (U (ck_sk T n S1.1 + 1, S1.2))).2.1 = -1 from hg9)] at zi
                    exact zi
            · intro zc24
              first | exact absurd rfl zc24 | exact absurd zc24 (by decide) | exact absurd (by decide) zc24 | (exfalso; first | exact zc47 (by rw [hTs]; decide) | exact zc47 hTs | exact absurd ((nI_leI (a := 400) (b := i) (by omega) (by omega)).mp zc15) (by omega)) | (exfalso; simp_all; done)
      · rw [cx_b1 hg]
        have hle := ck_sk_le T hsl1.1
        have hE := hE hg
        have hTf : cx_fW Q w Fo1 st1 67 = kI 0 400 T := (cx_f67 hw).trans hT
        have hlt : ck_sk T n S1.1 < n := cx_nx_lt hop (by decide)
        have hTs : T (ck_sk T n S1.1) = 43 := (if_pos hlt).symm.trans hop
        have hn43 := ct_X8_nextIs_t (l := l) (G := G) (sz := sz) (x := .ref w) hTf hE.1 hn hE.2.1 hle.2 (ch := 43) (by decide) hop
        have hE2 : cx_E T n (ck_sk T n S1.1 + 1, S1.2) (upd F1 2 (nI (ck_sk T n (ck_sk T n S1.1 + 1)))) Fo1 st1 := ⟨hE.1, rfl, hE.2.2.1, hE.2.2.2.1, hE.2.2.2.2.1, hE.2.2.2.2.2.1, hE.2.2.2.2.2.2⟩
        have hslA : ck_sl n 0 (ck_sk T n S1.1 + 1, S1.2) := ⟨hlt, fun q => Nat.le_trans (hsl1.2 hg) (Nat.le_succ_of_le hle.1)⟩
        have hlvA : ck_lv N (ck_sk T n S1.1 + 1, S1.2) := fun q => hlv1 hg
        obtain ⟨o1, o2⟩ := ck_one_g (T := T) (w := 4) hUg hsl1 hg (show ¬ ck_hcx T n S1.1 = 0 by rw [hop]; decide)
        have hUA := hUg 1 (ck_sk T n S1.1 + 1, S1.2) ⟨hlt, fun q => by have := hsl1.2 hg; show S1.2.2.2.2.1 + 1 ≤ ck_sk T n S1.1 + 1; omega⟩
        have he9 : (if S1.2.1 = -1 ∧ (ck_hcx T n S1.1 = 43 ∨ ck_hcx T n S1.1 = 45) then ck_lpw T n U n9 (ck_one T n U (if ck_hcx T n S1.1 = 43 then 4 else 5) S1) else ck_ex T n S1) = ck_lpwT T n U S := he9
        rw [if_pos ⟨hg, (fun z => Or.inl <| z) hop⟩, if_pos hop] at he9
        have h99 : ck_one T n U 4 S1 = U (ck_sk T n S1.1 + 1, S1.2) := if_neg hg9
        rw [h99] at o1 o2 he9
        have hb9 := cx_b0 hg9
        refine hB bX8_readSum_7 _ _ _ _ _ _ _ kX8_readSum_7 ?_
        dsimp only [bX8_readSum_7, kx_wp, kx_step, kx_lI, kx_lL, kx_lA, kx_gl, kx_pI, kx_pL, kx_pR, kx_pA, kx_pV, kx_s1, kx_s2, kx_sl, kx_pre, kx_c2, kx_pl, kx_cmp, kx_oF, kx_eqN, kx_nil, kx_c1, kx_ft, kx_aI, kx_aL, kx_aR, kx_ln, Nat.reduceAdd, Option.toList, List.cons_append, List.nil_append, cf8_0, cf8_2, cf8_9, cf9_16]
        repeat (simp only [cx_8w0 hw, cx_8o, cx_83 hw, cx_84 hw, hQ, hs, pk_us, pk_un, ne_eq, Nat.reduceEqDiff, not_false_eq_true, hE.2.1, cx_8n (show ¬ (67:Nat) = 68 by decide), cx_f67 hw, hT, nI_clamp (show ck_sk T n S1.1 < 2 ^ 31 by omega), nI_1, ks_eq, ks_ss]; try dsimp only [kx_wp, kx_step, kx_lI, kx_lL, kx_lA, kx_gl, kx_pI, kx_pL, kx_pR, kx_pA, kx_pV, kx_s1, kx_s2, kx_sl, kx_pre, kx_c2, kx_pl, kx_cmp, kx_oF, kx_eqN, kx_nil, kx_c1, kx_ft, kx_aI, kx_aL, kx_aR, kx_ln, Nat.reduceAdd, Option.toList, List.cons_append, List.nil_append, cf8_0, cf8_2, cf8_9, cf9_16])
        repeat' apply And.intro
        all_goals try (first | with_reducible assumption | (with_reducible refine ck_nzI ?_; simp; done) | (with_reducible refine ck_nzL ?_; simp; done) | (with_reducible refine vp_in_nI ?_ ?_ <;> first | omega | decide) | (with_reducible refine Nat.le_of_ble_eq_true ?_; rfl) | omega | exact Or.inl trivial | exact Or.inr trivial | exact Or.inl rfl | exact Or.inr rfl)
        · intro zc8
          first | exact absurd rfl zc8 | exact absurd zc8 (by decide) | exact absurd (by decide) zc8 | (exfalso; first | exact zc47 (by rw [hTs]; decide) | exact zc47 hTs | exact absurd ((nI_leI (a := 400) (b := i) (by omega) (by omega)).mp zc15) (by omega)) | (exfalso; simp_all; done)
        · intro zc8
          have ze8 := zc8
          refine hB bX8_readSum_11 _ _ _ _ _ _ _ kX8_readSum_11 ?_
          dsimp only [bX8_readSum_11, kx_wp, kx_step, kx_lI, kx_lL, kx_lA, kx_gl, kx_pI, kx_pL, kx_pR, kx_pA, kx_pV, kx_s1, kx_s2, kx_sl, kx_pre, kx_c2, kx_pl, kx_cmp, kx_oF, kx_eqN, kx_nil, kx_c1, kx_ft, kx_aI, kx_aL, kx_aR, kx_ln, Nat.reduceAdd, Option.toList, List.cons_append, List.nil_append, cf8_0, cf8_2, cf8_9, cf9_16]
          repeat (simp only [cx_8w0 hw, cx_8o, cx_83 hw, cx_84 hw, hQ, hs, pk_us, pk_un, ne_eq, Nat.reduceEqDiff, not_false_eq_true, hE.2.1, cx_8n (show ¬ (67:Nat) = 68 by decide), cx_f67 hw, hT, nI_clamp (show ck_sk T n S1.1 < 2 ^ 31 by omega), nI_1, ks_eq, ks_ss]; try dsimp only [kx_wp, kx_step, kx_lI, kx_lL, kx_lA, kx_gl, kx_pI, kx_pL, kx_pR, kx_pA, kx_pV, kx_s1, kx_s2, kx_sl, kx_pre, kx_c2, kx_pl, kx_cmp, kx_oF, kx_eqN, kx_nil, kx_c1, kx_ft, kx_aI, kx_aL, kx_aR, kx_ln, Nat.reduceAdd, Option.toList, List.cons_append, List.nil_append, cf8_0, cf8_2, cf8_9, cf9_16])
          repeat' apply And.intro
          all_goals try (first | with_reducible assumption | (with_reducible refine ck_nzI ?_; simp; done) | (with_reducible refine ck_nzL ?_; simp; done) | (with_reducible refine vp_in_nI ?_ ?_ <;> first | omega | decide) | (with_reducible refine Nat.le_of_ble_eq_true ?_; rfl) | omega | exact Or.inl trivial | exact Or.inr trivial | exact Or.inl rfl | exact Or.inr rfl)
          · intro zc15
            first | exact absurd rfl zc15 | exact absurd zc15 (by decide) | exact absurd (by decide) zc15 | (exfalso; first | exact zc47 (by rw [hTs]; decide) | exact zc47 hTs | exact absurd ((nI_leI (a := 400) (b := i) (by omega) (by omega)).mp zc15) (by omega)) | (exfalso; simp_all; done)
          · intro zc15
            with_reducible first | have ze15 := Int32.not_le.mp zc15 | have ze15 := zc15
            refine hB bX8_readSum_18 _ _ _ _ _ _ _ kX8_readSum_18 ?_
            dsimp only [bX8_readSum_18, kx_wp, kx_step, kx_lI, kx_lL, kx_lA, kx_gl, kx_pI, kx_pL, kx_pR, kx_pA, kx_pV, kx_s1, kx_s2, kx_sl, kx_pre, kx_c2, kx_pl, kx_cmp, kx_oF, kx_eqN, kx_nil, kx_c1, kx_ft, kx_aI, kx_aL, kx_aR, kx_ln, Nat.reduceAdd, Option.toList, List.cons_append, List.nil_append, cf8_0, cf8_2, cf8_9, cf9_16]
            repeat (simp only [cx_8w0 hw, cx_8o, cx_83 hw, cx_84 hw, hQ, hs, pk_us, pk_un, ne_eq, Nat.reduceEqDiff, not_false_eq_true, hE.2.1, cx_8n (show ¬ (67:Nat) = 68 by decide), cx_f67 hw, hT, nI_clamp (show ck_sk T n S1.1 < 2 ^ 31 by omega), nI_1, ks_eq, ks_ss]; try dsimp only [kx_wp, kx_step, kx_lI, kx_lL, kx_lA, kx_gl, kx_pI, kx_pL, kx_pR, kx_pA, kx_pV, kx_s1, kx_s2, kx_sl, kx_pre, kx_c2, kx_pl, kx_cmp, kx_oF, kx_eqN, kx_nil, kx_c1, kx_ft, kx_aI, kx_aL, kx_aR, kx_ln, Nat.reduceAdd, Option.toList, List.cons_append, List.nil_append, cf8_0, cf8_2, cf8_9, cf9_16])
            repeat' apply And.intro
            all_goals try (first | with_reducible assumption | (with_reducible refine ck_nzI ?_; simp; done) | (with_reducible refine ck_nzL ?_; simp; done) | (with_reducible refine vp_in_nI ?_ ?_ <;> first | omega | decide) | (with_reducible refine Nat.le_of_ble_eq_true ?_; rfl) | omega | exact Or.inl trivial | exact Or.inr trivial | exact Or.inl rfl | exact Or.inr rfl)
            refine hC.1 54 _ _ _ _ _ _ _ 8 _ _ _ _ _ _ _ _ _ _ _ _ lX8_54 (hn43) ⟨by decide, rfl⟩ (cx_8o) rfl rfl (Nat.le_of_ble_eq_true rfl) (by first | decide | omega) (by decide) (by omega) (by omega) dX8_readSum_21 ?_
            refine hB bX8_readSum_24 _ _ _ _ _ _ _ kX8_readSum_24 ?_
            dsimp only [bX8_readSum_24, kx_wp, kx_step, kx_lI, kx_lL, kx_lA, kx_gl, kx_pI, kx_pL, kx_pR, kx_pA, kx_pV, kx_s1, kx_s2, kx_sl, kx_pre, kx_c2, kx_pl, kx_cmp, kx_oF, kx_eqN, kx_nil, kx_c1, kx_ft, kx_aI, kx_aL, kx_aR, kx_ln, Nat.reduceAdd, Option.toList, List.cons_append, List.nil_append, cf8_0, cf8_2, cf8_9, cf9_16]
            repeat (simp only [cx_8w0 hw, cx_8o, cx_83 hw, cx_84 hw, hQ, hs, pk_us, pk_un, ne_eq, Nat.reduceEqDiff, not_false_eq_true, hE.2.1, cx_8n (show ¬ (67:Nat) = 68 by decide), cx_f67 hw, hT, nI_clamp (show ck_sk T n S1.1 < 2 ^ 31 by omega), nI_1, ks_eq, ks_ss]; try dsimp only [kx_wp, kx_step, kx_lI, kx_lL, kx_lA, kx_gl, kx_pI, kx_pL, kx_pR, kx_pA, kx_pV, kx_s1, kx_s2, kx_sl, kx_pre, kx_c2, kx_pl, kx_cmp, kx_oF, kx_eqN, kx_nil, kx_c1, kx_ft, kx_aI, kx_aL, kx_aR, kx_ln, Nat.reduceAdd, Option.toList, List.cons_append, List.nil_append, cf8_0, cf8_2, cf8_9, cf9_16])
            repeat' apply And.intro
            all_goals try (first | with_reducible assumption | (with_reducible refine ck_nzI ?_; simp; done) | (with_reducible refine ck_nzL ?_; simp; done) | (with_reducible refine vp_in_nI ?_ ?_ <;> first | omega | decide) | (with_reducible refine Nat.le_of_ble_eq_true ?_; rfl) | omega | exact Or.inl trivial | exact Or.inr trivial | exact Or.inl rfl | exact Or.inr rfl)
            · intro zc24
              have ze24 := zc24
              refine hB bX8_readSum_36 _ _ _ _ _ _ _ kX8_readSum_36 ?_
              dsimp only [bX8_readSum_36, kx_wp, kx_step, kx_lI, kx_lL, kx_lA, kx_gl, kx_pI, kx_pL, kx_pR, kx_pA, kx_pV, kx_s1, kx_s2, kx_sl, kx_pre, kx_c2, kx_pl, kx_cmp, kx_oF, kx_eqN, kx_nil, kx_c1, kx_ft, kx_aI, kx_aL, kx_aR, kx_ln, Nat.reduceAdd, Option.toList, List.cons_append, List.nil_append, cf8_0, cf8_2, cf8_9, cf9_16]
              repeat (simp only [cx_8w0 hw, cx_8o, cx_83 hw, cx_84 hw, hQ, hs, pk_us, pk_un, ne_eq, Nat.reduceEqDiff, not_false_eq_true, hE.2.1, cx_8n (show ¬ (67:Nat) = 68 by decide), cx_f67 hw, hT, nI_clamp (show ck_sk T n S1.1 < 2 ^ 31 by omega), nI_1, ks_eq, ks_ss]; try dsimp only [kx_wp, kx_step, kx_lI, kx_lL, kx_lA, kx_gl, kx_pI, kx_pL, kx_pR, kx_pA, kx_pV, kx_s1, kx_s2, kx_sl, kx_pre, kx_c2, kx_pl, kx_cmp, kx_oF, kx_eqN, kx_nil, kx_c1, kx_ft, kx_aI, kx_aL, kx_aR, kx_ln, Nat.reduceAdd, Option.toList, List.cons_append, List.nil_append, cf8_0, cf8_2, cf8_9, cf9_16])
              repeat' apply And.intro
              all_goals try (first | with_reducible assumption | (with_reducible refine ck_nzI ?_; simp; done) | (with_reducible refine ck_nzL ?_; simp; done) | (with_reducible refine vp_in_nI ?_ ?_ <;> first | omega | decide) | (with_reducible refine Nat.le_of_ble_eq_true ?_; rfl) | omega | exact Or.inl trivial | exact Or.inr trivial | exact Or.inl rfl | exact Or.inr rfl)
              · intro zc47
                first | exact absurd rfl zc47 | exact absurd zc47 (by decide) | exact absurd (by decide) zc47 | (exfalso; first | exact zc47 (by rw [hTs]; decide) | exact zc47 hTs | exact absurd ((nI_leI (a := 400) (b := i) (by omega) (by omega)).mp zc15) (by omega)) | (exfalso; simp_all; done)
              · intro zc47
                with_reducible first | have ze47 := Decidable.not_not.mp zc47 | have ze47 := zc47
                refine hB bX8_readSum_50 _ _ _ _ _ _ _ kX8_readSum_50 ?_
                dsimp only [bX8_readSum_50, kx_wp, kx_step, kx_lI, kx_lL, kx_lA, kx_gl, kx_pI, kx_pL, kx_pR, kx_pA, kx_pV, kx_s1, kx_s2, kx_sl, kx_pre, kx_c2, kx_pl, kx_cmp, kx_oF, kx_eqN, kx_nil, kx_c1, kx_ft, kx_aI, kx_aL, kx_aR, kx_ln, Nat.reduceAdd, Option.toList, List.cons_append, List.nil_append, cf8_0, cf8_2, cf8_9, cf9_16]
                repeat (simp only [cx_8w0 hw, cx_8o, cx_83 hw, cx_84 hw, hQ, hs, pk_us, pk_un, ne_eq, Nat.reduceEqDiff, not_false_eq_true, hE.2.1, cx_8n (show ¬ (67:Nat) = 68 by decide), cx_f67 hw, hT, nI_clamp (show ck_sk T n S1.1 < 2 ^ 31 by omega), nI_1, ks_eq, ks_ss]; try dsimp only [kx_wp, kx_step, kx_lI, kx_lL, kx_lA, kx_gl, kx_pI, kx_pL, kx_pR, kx_pA, kx_pV, kx_s1, kx_s2, kx_sl, kx_pre, kx_c2, kx_pl, kx_cmp, kx_oF, kx_eqN, kx_nil, kx_c1, kx_ft, kx_aI, kx_aL, kx_aR, kx_ln, Nat.reduceAdd, Option.toList, List.cons_append, List.nil_append, cf8_0, cf8_2, cf8_9, cf9_16])
                repeat' apply And.intro
                all_goals try (first | with_reducible assumption | (with_reducible refine ck_nzI ?_; simp; done) | (with_reducible refine ck_nzL ?_; simp; done) | (with_reducible refine vp_in_nI ?_ ?_ <;> first | omega | decide) | (with_reducible refine Nat.le_of_ble_eq_true ?_; rfl) | omega | exact Or.inl trivial | exact Or.inr trivial | exact Or.inl rfl | exact Or.inr rfl)
                refine hB bX8_readSum_57 _ _ _ _ _ _ _ kX8_readSum_57 ?_
                dsimp only [bX8_readSum_57, kx_wp, kx_step, kx_lI, kx_lL, kx_lA, kx_gl, kx_pI, kx_pL, kx_pR, kx_pA, kx_pV, kx_s1, kx_s2, kx_sl, kx_pre, kx_c2, kx_pl, kx_cmp, kx_oF, kx_eqN, kx_nil, kx_c1, kx_ft, kx_aI, kx_aL, kx_aR, kx_ln, Nat.reduceAdd, Option.toList, List.cons_append, List.nil_append, cf8_0, cf8_2, cf8_9, cf9_16]
                repeat (simp only [cx_8w0 hw, cx_8o, cx_83 hw, cx_84 hw, hQ, hs, pk_us, pk_un, ne_eq, Nat.reduceEqDiff, not_false_eq_true, hE.2.1, cx_8n (show ¬ (67:Nat) = 68 by decide), cx_f67 hw, hT, nI_clamp (show ck_sk T n S1.1 < 2 ^ 31 by omega), nI_1, ks_eq, ks_ss]; try dsimp only [kx_wp, kx_step, kx_lI, kx_lL, kx_lA, kx_gl, kx_pI, kx_pL, kx_pR, kx_pA, kx_pV, kx_s1, kx_s2, kx_sl, kx_pre, kx_c2, kx_pl, kx_cmp, kx_oF, kx_eqN, kx_nil, kx_c1, kx_ft, kx_aI, kx_aL, kx_aR, kx_ln, Nat.reduceAdd, Option.toList, List.cons_append, List.nil_append, cf8_0, cf8_2, cf8_9, cf9_16])
                repeat' apply And.intro
                all_goals try (first | with_reducible assumption | (with_reducible refine ck_nzI ?_; simp; done) | (with_reducible refine ck_nzL ?_; simp; done) | (with_reducible refine vp_in_nI ?_ ?_ <;> first | omega | decide) | (with_reducible refine Nat.le_of_ble_eq_true ?_; rfl) | omega | exact Or.inl trivial | exact Or.inr trivial | exact Or.inl rfl | exact Or.inr rfl)
                refine hC.1 46 _ _ _ _ _ _ _ 8 _ _ _ _ _ _ _ _ _ _ _ _ lX8_46 (ct_X8_skip1 l G (x := .ref w) hTf hE.1 hn hE.2.1 hlt) ⟨by decide, rfl⟩ (cx_8o) rfl rfl (Nat.le_of_ble_eq_true rfl) (by first | decide | omega) (by decide) (by omega) (by omega) dX8_readSum_60 ?_
                dsimp only [Option.toList, List.cons_append, List.nil_append]
                refine hB bX8_readSum_63 _ _ _ _ _ _ _ kX8_readSum_63 ?_
                dsimp only [bX8_readSum_63, kx_wp, kx_step, kx_lI, kx_lL, kx_lA, kx_gl, kx_pI, kx_pL, kx_pR, kx_pA, kx_pV, kx_s1, kx_s2, kx_sl, kx_pre, kx_c2, kx_pl, kx_cmp, kx_oF, kx_eqN, kx_nil, kx_c1, kx_ft, kx_aI, kx_aL, kx_aR, kx_ln, Nat.reduceAdd, Option.toList, List.cons_append, List.nil_append, cf8_0, cf8_2, cf8_9, cf9_16]
                repeat (simp only [cx_8w0 hw, cx_8o, cx_83 hw, cx_84 hw, hQ, hs, pk_us, pk_un, ne_eq, Nat.reduceEqDiff, not_false_eq_true, hE.2.1, cx_8n (show ¬ (67:Nat) = 68 by decide), cx_f67 hw, hT, nI_clamp (show ck_sk T n S1.1 < 2 ^ 31 by omega), nI_1, ks_eq, ks_ss]; try dsimp only [kx_wp, kx_step, kx_lI, kx_lL, kx_lA, kx_gl, kx_pI, kx_pL, kx_pR, kx_pA, kx_pV, kx_s1, kx_s2, kx_sl, kx_pre, kx_c2, kx_pl, kx_cmp, kx_oF, kx_eqN, kx_nil, kx_c1, kx_ft, kx_aI, kx_aL, kx_aR, kx_ln, Nat.reduceAdd, Option.toList, List.cons_append, List.nil_append, cf8_0, cf8_2, cf8_9, cf9_16])
                repeat' apply And.intro
                all_goals try (first | with_reducible assumption | (with_reducible refine ck_nzI ?_; simp; done) | (with_reducible refine ck_nzL ?_; simp; done) | (with_reducible refine vp_in_nI ?_ ?_ <;> first | omega | decide) | (with_reducible refine Nat.le_of_ble_eq_true ?_; rfl) | omega | exact Or.inl trivial | exact Or.inr trivial | exact Or.inl rfl | exact Or.inr rfl)
                refine hN.1 201 _ _ _ _ _ _ _ 8 _ _ _ _ _ _ _ _ _ _ lX8_201 (hU (ck_sk T n S1.1 + 1, S1.2) hg hslA hlvA _ _ _ hE2) ⟨by decide, rfl⟩ (cx_8o) rfl rfl (Nat.le_of_ble_eq_true rfl) (by omega) (by decide) (by omega) (by omega) dX8_readSum_64 ?_
                rintro r2 P2 s2 ⟨F2, Fo2, st2, rfl, rfl, rfl, hE3, hX3⟩
                rw [hb9]
                dsimp only [Option.toList, List.cons_append, List.nil_append]
                refine hB bX8_readSum_67 _ _ _ _ _ _ _ kX8_readSum_67 ?_
                dsimp only [bX8_readSum_67, kx_wp, kx_step, kx_lI, kx_lL, kx_lA, kx_gl, kx_pI, kx_pL, kx_pR, kx_pA, kx_pV, kx_s1, kx_s2, kx_sl, kx_pre, kx_c2, kx_pl, kx_cmp, kx_oF, kx_eqN, kx_nil, kx_c1, kx_ft, kx_aI, kx_aL, kx_aR, kx_ln, Nat.reduceAdd, Option.toList, List.cons_append, List.nil_append, cf8_0, cf8_2, cf8_9, cf9_16]
                repeat (simp only [cx_8w0 hw, cx_8o, cx_83 hw, cx_84 hw, hQ, hs, pk_us, pk_un, ne_eq, Nat.reduceEqDiff, not_false_eq_true, hE.2.1, cx_8n (show ¬ (67:Nat) = 68 by decide), cx_f67 hw, hT, nI_clamp (show ck_sk T n S1.1 < 2 ^ 31 by omega), nI_1, ks_eq, ks_ss]; try dsimp only [kx_wp, kx_step, kx_lI, kx_lL, kx_lA, kx_gl, kx_pI, kx_pL, kx_pR, kx_pA, kx_pV, kx_s1, kx_s2, kx_sl, kx_pre, kx_c2, kx_pl, kx_cmp, kx_oF, kx_eqN, kx_nil, kx_c1, kx_ft, kx_aI, kx_aL, kx_aR, kx_ln, Nat.reduceAdd, Option.toList, List.cons_append, List.nil_append, cf8_0, cf8_2, cf8_9, cf9_16])
                repeat' apply And.intro
                all_goals try (first | with_reducible assumption | (with_reducible refine ck_nzI ?_; simp; done) | (with_reducible refine ck_nzL ?_; simp; done) | (with_reducible refine vp_in_nI ?_ ?_ <;> first | omega | decide) | (with_reducible refine Nat.le_of_ble_eq_true ?_; rfl) | omega | exact Or.inl trivial | exact Or.inr trivial | exact Or.inl rfl | exact Or.inr rfl)
                · intro zc67
                  have ze67 := zc67
                  refine hB bX8_readSum_88 _ _ _ _ _ _ _ kX8_readSum_88 ?_
                  dsimp only [bX8_readSum_88, kx_wp, kx_step, kx_lI, kx_lL, kx_lA, kx_gl, kx_pI, kx_pL, kx_pR, kx_pA, kx_pV, kx_s1, kx_s2, kx_sl, kx_pre, kx_c2, kx_pl, kx_cmp, kx_oF, kx_eqN, kx_nil, kx_c1, kx_ft, kx_aI, kx_aL, kx_aR, kx_ln, Nat.reduceAdd, Option.toList, List.cons_append, List.nil_append, cf8_0, cf8_2, cf8_9, cf9_16]
                  repeat (simp only [cx_8w0 hw, cx_8o, cx_83 hw, cx_84 hw, hQ, hs, pk_us, pk_un, ne_eq, Nat.reduceEqDiff, not_false_eq_true, hE.2.1, cx_8n (show ¬ (67:Nat) = 68 by decide), cx_f67 hw, hT, nI_clamp (show ck_sk T n S1.1 < 2 ^ 31 by omega), nI_1, ks_eq, ks_ss]; try dsimp only [kx_wp, kx_step, kx_lI, kx_lL, kx_lA, kx_gl, kx_pI, kx_pL, kx_pR, kx_pA, kx_pV, kx_s1, kx_s2, kx_sl, kx_pre, kx_c2, kx_pl, kx_cmp, kx_oF, kx_eqN, kx_nil, kx_c1, kx_ft, kx_aI, kx_aL, kx_aR, kx_ln, Nat.reduceAdd, Option.toList, List.cons_append, List.nil_append, cf8_0, cf8_2, cf8_9, cf9_16])
                  repeat' apply And.intro
                  all_goals try (first | with_reducible assumption | (with_reducible refine ck_nzI ?_; simp; done) | (with_reducible refine ck_nzL ?_; simp; done) | (with_reducible refine vp_in_nI ?_ ?_ <;> first | omega | decide) | (with_reducible refine Nat.le_of_ble_eq_true ?_; rfl) | omega | exact Or.inl trivial | exact Or.inr trivial | exact Or.inl rfl | exact Or.inr rfl)
                  refine hB bX8_readSum_89 _ _ _ _ _ _ _ kX8_readSum_89 ?_
                  dsimp only [bX8_readSum_89, kx_wp, kx_step, kx_lI, kx_lL, kx_lA, kx_gl, kx_pI, kx_pL, kx_pR, kx_pA, kx_pV, kx_s1, kx_s2, kx_sl, kx_pre, kx_c2, kx_pl, kx_cmp, kx_oF, kx_eqN, kx_nil, kx_c1, kx_ft, kx_aI, kx_aL, kx_aR, kx_ln, Nat.reduceAdd, Option.toList, List.cons_append, List.nil_append, cf8_0, cf8_2, cf8_9, cf9_16]
                  repeat (simp only [cx_8w0 hw, cx_8o, cx_83 hw, cx_84 hw, hQ, hs, pk_us, pk_un, ne_eq, Nat.reduceEqDiff, not_false_eq_true, hE.2.1, cx_8n (show ¬ (67:Nat) = 68 by decide), cx_f67 hw, hT, nI_clamp (show ck_sk T n S1.1 < 2 ^ 31 by omega), nI_1, ks_eq, ks_ss]; try dsimp only [kx_wp, kx_step, kx_lI, kx_lL, kx_lA, kx_gl, kx_pI, kx_pL, kx_pR, kx_pA, kx_pV, kx_s1, kx_s2, kx_sl, kx_pre, kx_c2, kx_pl, kx_cmp, kx_oF, kx_eqN, kx_nil, kx_c1, kx_ft, kx_aI, kx_aL, kx_aR, kx_ln, Nat.reduceAdd, Option.toList, List.cons_append, List.nil_append, cf8_0, cf8_2, cf8_9, cf9_16])
                  repeat' apply And.intro
                  all_goals try (first | with_reducible assumption | (with_reducible refine ck_nzI ?_; simp; done) | (with_reducible refine ck_nzL ?_; simp; done) | (with_reducible refine vp_in_nI ?_ ?_ <;> first | omega | decide) | (with_reducible refine Nat.le_of_ble_eq_true ?_; rfl) | omega | exact Or.inl trivial | exact Or.inr trivial | exact Or.inl rfl | exact Or.inr rfl)
                  have zi := ih (U (ck_sk T n S1.1 + 1, S1.2)) F2 Fo2 st2 (i + 1) (some (.int (-4))) (fun q => absurd q hg9) hX3 (ck_sl_0 o1.1) (ck_lv_g o1 hlv1) (fun _ => by have := hnn hg; omega) (by omega) he9
                  rw [hb9] at zi
                  exact zi
                · intro zc67
                  first | exact absurd rfl zc67 | exact absurd zc67 (by decide) | exact absurd (by decide) zc67 | (exfalso; first | exact zc47 (by rw [hTs]; decide) | exact zc47 hTs | exact absurd ((nI_leI (a := 400) (b := i) (by omega) (by omega)).mp zc15) (by omega)) | (exfalso; simp_all; done)
            · intro zc24
              first | exact absurd rfl zc24 | exact absurd zc24 (by decide) | exact absurd (by decide) zc24 | (exfalso; first | exact zc47 (by rw [hTs]; decide) | exact zc47 hTs | exact absurd ((nI_leI (a := 400) (b := i) (by omega) (by omega)).mp zc15) (by omega)) | (exfalso; simp_all; done)
      · rw [cx_b1 hg]
        have hle := ck_sk_le T hsl1.1
        have hE := hE hg
        have hTf : cx_fW Q w Fo1 st1 67 = kI 0 400 T := (cx_f67 hw).trans hT
        have hlt : ck_sk T n S1.1 < n := cx_nx_lt hop (by decide)
        have hTs : T (ck_sk T n S1.1) = 45 := (if_pos hlt).symm.trans hop
        have hn43 := ct_X8_nextIs_f (l := l) (G := G) (sz := sz) (x := .ref w) hTf hE.1 hn hE.2.1 hle.2 (ch := 43) (by decide) (show ¬ ck_hcx T n S1.1 = 43 by rw [hop]; decide)
        have hn45 := ct_X8_nextIs_t (l := l) (G := G) (sz := sz) (x := .ref w) hTf hE.1 hn hE.2.1 hle.2 (ch := 45) (by decide) hop
        have hE2 : cx_E T n (ck_sk T n S1.1 + 1, S1.2) (upd F1 2 (nI (ck_sk T n (ck_sk T n S1.1 + 1)))) Fo1 st1 := ⟨hE.1, rfl, hE.2.2.1, hE.2.2.2.1, hE.2.2.2.2.1, hE.2.2.2.2.2.1, hE.2.2.2.2.2.2⟩
        have hslA : ck_sl n 0 (ck_sk T n S1.1 + 1, S1.2) := ⟨hlt, fun q => Nat.le_trans (hsl1.2 hg) (Nat.le_succ_of_le hle.1)⟩
        have hlvA : ck_lv N (ck_sk T n S1.1 + 1, S1.2) := fun q => hlv1 hg
        obtain ⟨o1, o2⟩ := ck_one_g (T := T) (w := 5) hUg hsl1 hg (show ¬ ck_hcx T n S1.1 = 0 by rw [hop]; decide)
        have hUA := hUg 1 (ck_sk T n S1.1 + 1, S1.2) ⟨hlt, fun q => by have := hsl1.2 hg; show S1.2.2.2.2.1 + 1 ≤ ck_sk T n S1.1 + 1; omega⟩
        have he9 : (if S1.2.1 = -1 ∧ (ck_hcx T n S1.1 = 43 ∨ ck_hcx T n S1.1 = 45) then ck_lpw T n U n9 (ck_one T n U (if ck_hcx T n S1.1 = 43 then 4 else 5) S1) else ck_ex T n S1) = ck_lpwT T n U S := he9
        rw [if_pos ⟨hg, (fun z => Or.inr <| z) hop⟩, if_neg (show ¬ ck_hcx T n S1.1 = 43 by rw [hop]; decide)] at he9
        have h99 : ck_one T n U 5 S1 = ck_emR 5 0 (U (ck_sk T n S1.1 + 1, S1.2)) := if_pos hg9
        rw [h99] at o1 o2 he9
        have hb9 := cx_b1 hg9
        have hc4 : (U (ck_sk T n S1.1 + 1, S1.2)).2.2.2.2.1 < 400 := by have := hUA.1.2 hg9; have := hUA.1.1; omega
        refine hB bX8_readSum_7 _ _ _ _ _ _ _ kX8_readSum_7 ?_
        dsimp only [bX8_readSum_7, kx_wp, kx_step, kx_lI, kx_lL, kx_lA, kx_gl, kx_pI, kx_pL, kx_pR, kx_pA, kx_pV, kx_s1, kx_s2, kx_sl, kx_pre, kx_c2, kx_pl, kx_cmp, kx_oF, kx_eqN, kx_nil, kx_c1, kx_ft, kx_aI, kx_aL, kx_aR, kx_ln, Nat.reduceAdd, Option.toList, List.cons_append, List.nil_append, cf8_0, cf8_2, cf8_9, cf9_16]
        repeat (simp only [cx_8w0 hw, cx_8o, cx_83 hw, cx_84 hw, hQ, hs, pk_us, pk_un, ne_eq, Nat.reduceEqDiff, not_false_eq_true, hE.2.1, cx_8n (show ¬ (67:Nat) = 68 by decide), cx_f67 hw, hT, nI_clamp (show ck_sk T n S1.1 < 2 ^ 31 by omega), nI_1, ks_eq, ks_ss]; try dsimp only [kx_wp, kx_step, kx_lI, kx_lL, kx_lA, kx_gl, kx_pI, kx_pL, kx_pR, kx_pA, kx_pV, kx_s1, kx_s2, kx_sl, kx_pre, kx_c2, kx_pl, kx_cmp, kx_oF, kx_eqN, kx_nil, kx_c1, kx_ft, kx_aI, kx_aL, kx_aR, kx_ln, Nat.reduceAdd, Option.toList, List.cons_append, List.nil_append, cf8_0, cf8_2, cf8_9, cf9_16])
        repeat' apply And.intro
        all_goals try (first | with_reducible assumption | (with_reducible refine ck_nzI ?_; simp; done) | (with_reducible refine ck_nzL ?_; simp; done) | (with_reducible refine vp_in_nI ?_ ?_ <;> first | omega | decide) | (with_reducible refine Nat.le_of_ble_eq_true ?_; rfl) | omega | exact Or.inl trivial | exact Or.inr trivial | exact Or.inl rfl | exact Or.inr rfl)
        · intro zc8
          first | exact absurd rfl zc8 | exact absurd zc8 (by decide) | exact absurd (by decide) zc8 | (exfalso; first | exact zc47 (by rw [hTs]; decide) | exact zc47 hTs | exact absurd ((nI_leI (a := 400) (b := i) (by omega) (by omega)).mp zc15) (by omega)) | (exfalso; simp_all; done)
        · intro zc8
          have ze8 := zc8
          refine hB bX8_readSum_11 _ _ _ _ _ _ _ kX8_readSum_11 ?_
          dsimp only [bX8_readSum_11, kx_wp, kx_step, kx_lI, kx_lL, kx_lA, kx_gl, kx_pI, kx_pL, kx_pR, kx_pA, kx_pV, kx_s1, kx_s2, kx_sl, kx_pre, kx_c2, kx_pl, kx_cmp, kx_oF, kx_eqN, kx_nil, kx_c1, kx_ft, kx_aI, kx_aL, kx_aR, kx_ln, Nat.reduceAdd, Option.toList, List.cons_append, List.nil_append, cf8_0, cf8_2, cf8_9, cf9_16]
          repeat (simp only [cx_8w0 hw, cx_8o, cx_83 hw, cx_84 hw, hQ, hs, pk_us, pk_un, ne_eq, Nat.reduceEqDiff, not_false_eq_true, hE.2.1, cx_8n (show ¬ (67:Nat) = 68 by decide), cx_f67 hw, hT, nI_clamp (show ck_sk T n S1.1 < 2 ^ 31 by omega), nI_1, ks_eq, ks_ss]; try dsimp only [kx_wp, kx_step, kx_lI, kx_lL, kx_lA, kx_gl, kx_pI, kx_pL, kx_pR, kx_pA, kx_pV, kx_s1, kx_s2, kx_sl, kx_pre, kx_c2, kx_pl, kx_cmp, kx_oF, kx_eqN, kx_nil, kx_c1, kx_ft, kx_aI, kx_aL, kx_aR, kx_ln, Nat.reduceAdd, Option.toList, List.cons_append, List.nil_append, cf8_0, cf8_2, cf8_9, cf9_16])
          repeat' apply And.intro
          all_goals try (first | with_reducible assumption | (with_reducible refine ck_nzI ?_; simp; done) | (with_reducible refine ck_nzL ?_; simp; done) | (with_reducible refine vp_in_nI ?_ ?_ <;> first | omega | decide) | (with_reducible refine Nat.le_of_ble_eq_true ?_; rfl) | omega | exact Or.inl trivial | exact Or.inr trivial | exact Or.inl rfl | exact Or.inr rfl)
          · intro zc15
            first | exact absurd rfl zc15 | exact absurd zc15 (by decide) | exact absurd (by decide) zc15 | (exfalso; first | exact zc47 (by rw [hTs]; decide) | exact zc47 hTs | exact absurd ((nI_leI (a := 400) (b := i) (by omega) (by omega)).mp zc15) (by omega)) | (exfalso; simp_all; done)
          · intro zc15
            with_reducible first | have ze15 := Int32.not_le.mp zc15 | have ze15 := zc15
            refine hB bX8_readSum_18 _ _ _ _ _ _ _ kX8_readSum_18 ?_
            dsimp only [bX8_readSum_18, kx_wp, kx_step, kx_lI, kx_lL, kx_lA, kx_gl, kx_pI, kx_pL, kx_pR, kx_pA, kx_pV, kx_s1, kx_s2, kx_sl, kx_pre, kx_c2, kx_pl, kx_cmp, kx_oF, kx_eqN, kx_nil, kx_c1, kx_ft, kx_aI, kx_aL, kx_aR, kx_ln, Nat.reduceAdd, Option.toList, List.cons_append, List.nil_append, cf8_0, cf8_2, cf8_9, cf9_16]
            repeat (simp only [cx_8w0 hw, cx_8o, cx_83 hw, cx_84 hw, hQ, hs, pk_us, pk_un, ne_eq, Nat.reduceEqDiff, not_false_eq_true, hE.2.1, cx_8n (show ¬ (67:Nat) = 68 by decide), cx_f67 hw, hT, nI_clamp (show ck_sk T n S1.1 < 2 ^ 31 by omega), nI_1, ks_eq, ks_ss]; try dsimp only [kx_wp, kx_step, kx_lI, kx_lL, kx_lA, kx_gl, kx_pI, kx_pL, kx_pR, kx_pA, kx_pV, kx_s1, kx_s2, kx_sl, kx_pre, kx_c2, kx_pl, kx_cmp, kx_oF, kx_eqN, kx_nil, kx_c1, kx_ft, kx_aI, kx_aL, kx_aR, kx_ln, Nat.reduceAdd, Option.toList, List.cons_append, List.nil_append, cf8_0, cf8_2, cf8_9, cf9_16])
            repeat' apply And.intro
            all_goals try (first | with_reducible assumption | (with_reducible refine ck_nzI ?_; simp; done) | (with_reducible refine ck_nzL ?_; simp; done) | (with_reducible refine vp_in_nI ?_ ?_ <;> first | omega | decide) | (with_reducible refine Nat.le_of_ble_eq_true ?_; rfl) | omega | exact Or.inl trivial | exact Or.inr trivial | exact Or.inl rfl | exact Or.inr rfl)
            refine hC.1 54 _ _ _ _ _ _ _ 8 _ _ _ _ _ _ _ _ _ _ _ _ lX8_54 (hn43) ⟨by decide, rfl⟩ (cx_8o) rfl rfl (Nat.le_of_ble_eq_true rfl) (by first | decide | omega) (by decide) (by omega) (by omega) dX8_readSum_21 ?_
            refine hB bX8_readSum_24 _ _ _ _ _ _ _ kX8_readSum_24 ?_
            dsimp only [bX8_readSum_24, kx_wp, kx_step, kx_lI, kx_lL, kx_lA, kx_gl, kx_pI, kx_pL, kx_pR, kx_pA, kx_pV, kx_s1, kx_s2, kx_sl, kx_pre, kx_c2, kx_pl, kx_cmp, kx_oF, kx_eqN, kx_nil, kx_c1, kx_ft, kx_aI, kx_aL, kx_aR, kx_ln, Nat.reduceAdd, Option.toList, List.cons_append, List.nil_append, cf8_0, cf8_2, cf8_9, cf9_16]
            repeat (simp only [cx_8w0 hw, cx_8o, cx_83 hw, cx_84 hw, hQ, hs, pk_us, pk_un, ne_eq, Nat.reduceEqDiff, not_false_eq_true, hE.2.1, cx_8n (show ¬ (67:Nat) = 68 by decide), cx_f67 hw, hT, nI_clamp (show ck_sk T n S1.1 < 2 ^ 31 by omega), nI_1, ks_eq, ks_ss]; try dsimp only [kx_wp, kx_step, kx_lI, kx_lL, kx_lA, kx_gl, kx_pI, kx_pL, kx_pR, kx_pA, kx_pV, kx_s1, kx_s2, kx_sl, kx_pre, kx_c2, kx_pl, kx_cmp, kx_oF, kx_eqN, kx_nil, kx_c1, kx_ft, kx_aI, kx_aL, kx_aR, kx_ln, Nat.reduceAdd, Option.toList, List.cons_append, List.nil_append, cf8_0, cf8_2, cf8_9, cf9_16])
            repeat' apply And.intro
            all_goals try (first | with_reducible assumption | (with_reducible refine ck_nzI ?_; simp; done) | (with_reducible refine ck_nzL ?_; simp; done) | (with_reducible refine vp_in_nI ?_ ?_ <;> first | omega | decide) | (with_reducible refine Nat.le_of_ble_eq_true ?_; rfl) | omega | exact Or.inl trivial | exact Or.inr trivial | exact Or.inl rfl | exact Or.inr rfl)
            · intro zc24
              first | exact absurd rfl zc24 | exact absurd zc24 (by decide) | exact absurd (by decide) zc24 | (exfalso; first | exact zc47 (by rw [hTs]; decide) | exact zc47 hTs | exact absurd ((nI_leI (a := 400) (b := i) (by omega) (by omega)).mp zc15) (by omega)) | (exfalso; simp_all; done)
            · intro zc24
              with_reducible first | have ze24 := Decidable.not_not.mp zc24 | have ze24 := zc24
              refine hB bX8_readSum_27 _ _ _ _ _ _ _ kX8_readSum_27 ?_
              dsimp only [bX8_readSum_27, kx_wp, kx_step, kx_lI, kx_lL, kx_lA, kx_gl, kx_pI, kx_pL, kx_pR, kx_pA, kx_pV, kx_s1, kx_s2, kx_sl, kx_pre, kx_c2, kx_pl, kx_cmp, kx_oF, kx_eqN, kx_nil, kx_c1, kx_ft, kx_aI, kx_aL, kx_aR, kx_ln, Nat.reduceAdd, Option.toList, List.cons_append, List.nil_append, cf8_0, cf8_2, cf8_9, cf9_16]
              repeat (simp only [cx_8w0 hw, cx_8o, cx_83 hw, cx_84 hw, hQ, hs, pk_us, pk_un, ne_eq, Nat.reduceEqDiff, not_false_eq_true, hE.2.1, cx_8n (show ¬ (67:Nat) = 68 by decide), cx_f67 hw, hT, nI_clamp (show ck_sk T n S1.1 < 2 ^ 31 by omega), nI_1, ks_eq, ks_ss]; try dsimp only [kx_wp, kx_step, kx_lI, kx_lL, kx_lA, kx_gl, kx_pI, kx_pL, kx_pR, kx_pA, kx_pV, kx_s1, kx_s2, kx_sl, kx_pre, kx_c2, kx_pl, kx_cmp, kx_oF, kx_eqN, kx_nil, kx_c1, kx_ft, kx_aI, kx_aL, kx_aR, kx_ln, Nat.reduceAdd, Option.toList, List.cons_append, List.nil_append, cf8_0, cf8_2, cf8_9, cf9_16])
              repeat' apply And.intro
              all_goals try (first | with_reducible assumption | (with_reducible refine ck_nzI ?_; simp; done) | (with_reducible refine ck_nzL ?_; simp; done) | (with_reducible refine vp_in_nI ?_ ?_ <;> first | omega | decide) | (with_reducible refine Nat.le_of_ble_eq_true ?_; rfl) | omega | exact Or.inl trivial | exact Or.inr trivial | exact Or.inl rfl | exact Or.inr rfl)
              refine hC.1 54 _ _ _ _ _ _ _ 8 _ _ _ _ _ _ _ _ _ _ _ _ lX8_54 (hn45) ⟨by decide, rfl⟩ (cx_8o) rfl rfl (Nat.le_of_ble_eq_true rfl) (by first | decide | omega) (by decide) (by omega) (by omega) dX8_readSum_30 ?_
              refine hB bX8_readSum_33 _ _ _ _ _ _ _ kX8_readSum_33 ?_
              dsimp only [bX8_readSum_33, kx_wp, kx_step, kx_lI, kx_lL, kx_lA, kx_gl, kx_pI, kx_pL, kx_pR, kx_pA, kx_pV, kx_s1, kx_s2, kx_sl, kx_pre, kx_c2, kx_pl, kx_cmp, kx_oF, kx_eqN, kx_nil, kx_c1, kx_ft, kx_aI, kx_aL, kx_aR, kx_ln, Nat.reduceAdd, Option.toList, List.cons_append, List.nil_append, cf8_0, cf8_2, cf8_9, cf9_16]
              repeat (simp only [cx_8w0 hw, cx_8o, cx_83 hw, cx_84 hw, hQ, hs, pk_us, pk_un, ne_eq, Nat.reduceEqDiff, not_false_eq_true, hE.2.1, cx_8n (show ¬ (67:Nat) = 68 by decide), cx_f67 hw, hT, nI_clamp (show ck_sk T n S1.1 < 2 ^ 31 by omega), nI_1, ks_eq, ks_ss]; try dsimp only [kx_wp, kx_step, kx_lI, kx_lL, kx_lA, kx_gl, kx_pI, kx_pL, kx_pR, kx_pA, kx_pV, kx_s1, kx_s2, kx_sl, kx_pre, kx_c2, kx_pl, kx_cmp, kx_oF, kx_eqN, kx_nil, kx_c1, kx_ft, kx_aI, kx_aL, kx_aR, kx_ln, Nat.reduceAdd, Option.toList, List.cons_append, List.nil_append, cf8_0, cf8_2, cf8_9, cf9_16])
              repeat' apply And.intro
              all_goals try (first | with_reducible assumption | (with_reducible refine ck_nzI ?_; simp; done) | (with_reducible refine ck_nzL ?_; simp; done) | (with_reducible refine vp_in_nI ?_ ?_ <;> first | omega | decide) | (with_reducible refine Nat.le_of_ble_eq_true ?_; rfl) | omega | exact Or.inl trivial | exact Or.inr trivial | exact Or.inl rfl | exact Or.inr rfl)
              · intro zc33
                first | exact absurd rfl zc33 | exact absurd zc33 (by decide) | exact absurd (by decide) zc33 | (exfalso; first | exact zc47 (by rw [hTs]; decide) | exact zc47 hTs | exact absurd ((nI_leI (a := 400) (b := i) (by omega) (by omega)).mp zc15) (by omega)) | (exfalso; simp_all; done)
              · intro zc33
                have ze33 := zc33
                refine hB bX8_readSum_36 _ _ _ _ _ _ _ kX8_readSum_36 ?_
                dsimp only [bX8_readSum_36, kx_wp, kx_step, kx_lI, kx_lL, kx_lA, kx_gl, kx_pI, kx_pL, kx_pR, kx_pA, kx_pV, kx_s1, kx_s2, kx_sl, kx_pre, kx_c2, kx_pl, kx_cmp, kx_oF, kx_eqN, kx_nil, kx_c1, kx_ft, kx_aI, kx_aL, kx_aR, kx_ln, Nat.reduceAdd, Option.toList, List.cons_append, List.nil_append, cf8_0, cf8_2, cf8_9, cf9_16]
                repeat (simp only [cx_8w0 hw, cx_8o, cx_83 hw, cx_84 hw, hQ, hs, pk_us, pk_un, ne_eq, Nat.reduceEqDiff, not_false_eq_true, hE.2.1, cx_8n (show ¬ (67:Nat) = 68 by decide), cx_f67 hw, hT, nI_clamp (show ck_sk T n S1.1 < 2 ^ 31 by omega), nI_1, ks_eq, ks_ss]; try dsimp only [kx_wp, kx_step, kx_lI, kx_lL, kx_lA, kx_gl, kx_pI, kx_pL, kx_pR, kx_pA, kx_pV, kx_s1, kx_s2, kx_sl, kx_pre, kx_c2, kx_pl, kx_cmp, kx_oF, kx_eqN, kx_nil, kx_c1, kx_ft, kx_aI, kx_aL, kx_aR, kx_ln, Nat.reduceAdd, Option.toList, List.cons_append, List.nil_append, cf8_0, cf8_2, cf8_9, cf9_16])
                repeat' apply And.intro
                all_goals try (first | with_reducible assumption | (with_reducible refine ck_nzI ?_; simp; done) | (with_reducible refine ck_nzL ?_; simp; done) | (with_reducible refine vp_in_nI ?_ ?_ <;> first | omega | decide) | (with_reducible refine Nat.le_of_ble_eq_true ?_; rfl) | omega | exact Or.inl trivial | exact Or.inr trivial | exact Or.inl rfl | exact Or.inr rfl)
                · intro zc47
                  have ze47 := zc47
                  refine hB bX8_readSum_55 _ _ _ _ _ _ _ kX8_readSum_55 ?_
                  dsimp only [bX8_readSum_55, kx_wp, kx_step, kx_lI, kx_lL, kx_lA, kx_gl, kx_pI, kx_pL, kx_pR, kx_pA, kx_pV, kx_s1, kx_s2, kx_sl, kx_pre, kx_c2, kx_pl, kx_cmp, kx_oF, kx_eqN, kx_nil, kx_c1, kx_ft, kx_aI, kx_aL, kx_aR, kx_ln, Nat.reduceAdd, Option.toList, List.cons_append, List.nil_append, cf8_0, cf8_2, cf8_9, cf9_16]
                  repeat (simp only [cx_8w0 hw, cx_8o, cx_83 hw, cx_84 hw, hQ, hs, pk_us, pk_un, ne_eq, Nat.reduceEqDiff, not_false_eq_true, hE.2.1, cx_8n (show ¬ (67:Nat) = 68 by decide), cx_f67 hw, hT, nI_clamp (show ck_sk T n S1.1 < 2 ^ 31 by omega), nI_1, ks_eq, ks_ss]; try dsimp only [kx_wp, kx_step, kx_lI, kx_lL, kx_lA, kx_gl, kx_pI, kx_pL, kx_pR, kx_pA, kx_pV, kx_s1, kx_s2, kx_sl, kx_pre, kx_c2, kx_pl, kx_cmp, kx_oF, kx_eqN, kx_nil, kx_c1, kx_ft, kx_aI, kx_aL, kx_aR, kx_ln, Nat.reduceAdd, Option.toList, List.cons_append, List.nil_append, cf8_0, cf8_2, cf8_9, cf9_16])
                  repeat' apply And.intro
                  all_goals try (first | with_reducible assumption | (with_reducible refine ck_nzI ?_; simp; done) | (with_reducible refine ck_nzL ?_; simp; done) | (with_reducible refine vp_in_nI ?_ ?_ <;> first | omega | decide) | (with_reducible refine Nat.le_of_ble_eq_true ?_; rfl) | omega | exact Or.inl trivial | exact Or.inr trivial | exact Or.inl rfl | exact Or.inr rfl)
                  refine hB bX8_readSum_57 _ _ _ _ _ _ _ kX8_readSum_57 ?_
                  dsimp only [bX8_readSum_57, kx_wp, kx_step, kx_lI, kx_lL, kx_lA, kx_gl, kx_pI, kx_pL, kx_pR, kx_pA, kx_pV, kx_s1, kx_s2, kx_sl, kx_pre, kx_c2, kx_pl, kx_cmp, kx_oF, kx_eqN, kx_nil, kx_c1, kx_ft, kx_aI, kx_aL, kx_aR, kx_ln, Nat.reduceAdd, Option.toList, List.cons_append, List.nil_append, cf8_0, cf8_2, cf8_9, cf9_16]
                  repeat (simp only [cx_8w0 hw, cx_8o, cx_83 hw, cx_84 hw, hQ, hs, pk_us, pk_un, ne_eq, Nat.reduceEqDiff, not_false_eq_true, hE.2.1, cx_8n (show ¬ (67:Nat) = 68 by decide), cx_f67 hw, hT, nI_clamp (show ck_sk T n S1.1 < 2 ^ 31 by omega), nI_1, ks_eq, ks_ss]; try dsimp only [kx_wp, kx_step, kx_lI, kx_lL, kx_lA, kx_gl, kx_pI, kx_pL, kx_pR, kx_pA, kx_pV, kx_s1, kx_s2, kx_sl, kx_pre, kx_c2, kx_pl, kx_cmp, kx_oF, kx_eqN, kx_nil, kx_c1, kx_ft, kx_aI, kx_aL, kx_aR, kx_ln, Nat.reduceAdd, Option.toList, List.cons_append, List.nil_append, cf8_0, cf8_2, cf8_9, cf9_16])
                  repeat' apply And.intro
                  all_goals try (first | with_reducible assumption | (with_reducible refine ck_nzI ?_; simp; done) | (with_reducible refine ck_nzL ?_; simp; done) | (with_reducible refine vp_in_nI ?_ ?_ <;> first | omega | decide) | (with_reducible refine Nat.le_of_ble_eq_true ?_; rfl) | omega | exact Or.inl trivial | exact Or.inr trivial | exact Or.inl rfl | exact Or.inr rfl)
                  refine hC.1 46 _ _ _ _ _ _ _ 8 _ _ _ _ _ _ _ _ _ _ _ _ lX8_46 (ct_X8_skip1 l G (x := .ref w) hTf hE.1 hn hE.2.1 hlt) ⟨by decide, rfl⟩ (cx_8o) rfl rfl (Nat.le_of_ble_eq_true rfl) (by first | decide | omega) (by decide) (by omega) (by omega) dX8_readSum_60 ?_
                  dsimp only [Option.toList, List.cons_append, List.nil_append]
                  refine hB bX8_readSum_63 _ _ _ _ _ _ _ kX8_readSum_63 ?_
                  dsimp only [bX8_readSum_63, kx_wp, kx_step, kx_lI, kx_lL, kx_lA, kx_gl, kx_pI, kx_pL, kx_pR, kx_pA, kx_pV, kx_s1, kx_s2, kx_sl, kx_pre, kx_c2, kx_pl, kx_cmp, kx_oF, kx_eqN, kx_nil, kx_c1, kx_ft, kx_aI, kx_aL, kx_aR, kx_ln, Nat.reduceAdd, Option.toList, List.cons_append, List.nil_append, cf8_0, cf8_2, cf8_9, cf9_16]
                  repeat (simp only [cx_8w0 hw, cx_8o, cx_83 hw, cx_84 hw, hQ, hs, pk_us, pk_un, ne_eq, Nat.reduceEqDiff, not_false_eq_true, hE.2.1, cx_8n (show ¬ (67:Nat) = 68 by decide), cx_f67 hw, hT, nI_clamp (show ck_sk T n S1.1 < 2 ^ 31 by omega), nI_1, ks_eq, ks_ss]; try dsimp only [kx_wp, kx_step, kx_lI, kx_lL, kx_lA, kx_gl, kx_pI, kx_pL, kx_pR, kx_pA, kx_pV, kx_s1, kx_s2, kx_sl, kx_pre, kx_c2, kx_pl, kx_cmp, kx_oF, kx_eqN, kx_nil, kx_c1, kx_ft, kx_aI, kx_aL, kx_aR, kx_ln, Nat.reduceAdd, Option.toList, List.cons_append, List.nil_append, cf8_0, cf8_2, cf8_9, cf9_16])
                  repeat' apply And.intro
                  all_goals try (first | with_reducible assumption | (with_reducible refine ck_nzI ?_; simp; done) | (with_reducible refine ck_nzL ?_; simp; done) | (with_reducible refine vp_in_nI ?_ ?_ <;> first | omega | decide) | (with_reducible refine Nat.le_of_ble_eq_true ?_; rfl) | omega | exact Or.inl trivial | exact Or.inr trivial | exact Or.inl rfl | exact Or.inr rfl)
                  refine hN.1 201 _ _ _ _ _ _ _ 8 _ _ _ _ _ _ _ _ _ _ lX8_201 (hU (ck_sk T n S1.1 + 1, S1.2) hg hslA hlvA _ _ _ hE2) ⟨by decide, rfl⟩ (cx_8o) rfl rfl (Nat.le_of_ble_eq_true rfl) (by omega) (by decide) (by omega) (by omega) dX8_readSum_64 ?_
                  rintro r2 P2 s2 ⟨F2, Fo2, st2, rfl, rfl, rfl, hE3, hX3⟩
                  rw [hb9]
                  dsimp only [Option.toList, List.cons_append, List.nil_append]
                  refine hB bX8_readSum_67 _ _ _ _ _ _ _ kX8_readSum_67 ?_
                  dsimp only [bX8_readSum_67, kx_wp, kx_step, kx_lI, kx_lL, kx_lA, kx_gl, kx_pI, kx_pL, kx_pR, kx_pA, kx_pV, kx_s1, kx_s2, kx_sl, kx_pre, kx_c2, kx_pl, kx_cmp, kx_oF, kx_eqN, kx_nil, kx_c1, kx_ft, kx_aI, kx_aL, kx_aR, kx_ln, Nat.reduceAdd, Option.toList, List.cons_append, List.nil_append, cf8_0, cf8_2, cf8_9, cf9_16]
                  repeat (simp only [cx_8w0 hw, cx_8o, cx_83 hw, cx_84 hw, hQ, hs, pk_us, pk_un, ne_eq, Nat.reduceEqDiff, not_false_eq_true, hE.2.1, cx_8n (show ¬ (67:Nat) = 68 by decide), cx_f67 hw, hT, nI_clamp (show ck_sk T n S1.1 < 2 ^ 31 by omega), nI_1, ks_eq, ks_ss]; try dsimp only [kx_wp, kx_step, kx_lI, kx_lL, kx_lA, kx_gl, kx_pI, kx_pL, kx_pR, kx_pA, kx_pV, kx_s1, kx_s2, kx_sl, kx_pre, kx_c2, kx_pl, kx_cmp, kx_oF, kx_eqN, kx_nil, kx_c1, kx_ft, kx_aI, kx_aL, kx_aR, kx_ln, Nat.reduceAdd, Option.toList, List.cons_append, List.nil_append, cf8_0, cf8_2, cf8_9, cf9_16])
                  repeat' apply And.intro
                  all_goals try (first | with_reducible assumption | (with_reducible refine ck_nzI ?_; simp; done) | (with_reducible refine ck_nzL ?_; simp; done) | (with_reducible refine vp_in_nI ?_ ?_ <;> first | omega | decide) | (with_reducible refine Nat.le_of_ble_eq_true ?_; rfl) | omega | exact Or.inl trivial | exact Or.inr trivial | exact Or.inl rfl | exact Or.inr rfl)
                  · intro zc67
                    first | exact absurd rfl zc67 | exact absurd zc67 (by decide) | exact absurd (by decide) zc67 | (exfalso; first | exact zc47 (by rw [hTs]; decide) | exact zc47 hTs | exact absurd ((nI_leI (a := 400) (b := i) (by omega) (by omega)).mp zc15) (by omega)) | (exfalso; simp_all; done)
                  · intro zc67
                    have ze67 := zc67
                    refine hB bX8_readSum_70 _ _ _ _ _ _ _ kX8_readSum_70 ?_
                    dsimp only [bX8_readSum_70, kx_wp, kx_step, kx_lI, kx_lL, kx_lA, kx_gl, kx_pI, kx_pL, kx_pR, kx_pA, kx_pV, kx_s1, kx_s2, kx_sl, kx_pre, kx_c2, kx_pl, kx_cmp, kx_oF, kx_eqN, kx_nil, kx_c1, kx_ft, kx_aI, kx_aL, kx_aR, kx_ln, Nat.reduceAdd, Option.toList, List.cons_append, List.nil_append, cf8_0, cf8_2, cf8_9, cf9_16]
                    repeat (simp only [cx_8w0 hw, cx_8o, cx_83 hw, cx_84 hw, hQ, hs, pk_us, pk_un, ne_eq, Nat.reduceEqDiff, not_false_eq_true, hE.2.1, cx_8n (show ¬ (67:Nat) = 68 by decide), cx_f67 hw, hT, nI_clamp (show ck_sk T n S1.1 < 2 ^ 31 by omega), nI_1, ks_eq, ks_ss]; try dsimp only [kx_wp, kx_step, kx_lI, kx_lL, kx_lA, kx_gl, kx_pI, kx_pL, kx_pR, kx_pA, kx_pV, kx_s1, kx_s2, kx_sl, kx_pre, kx_c2, kx_pl, kx_cmp, kx_oF, kx_eqN, kx_nil, kx_c1, kx_ft, kx_aI, kx_aL, kx_aR, kx_ln, Nat.reduceAdd, Option.toList, List.cons_append, List.nil_append, cf8_0, cf8_2, cf8_9, cf9_16])
                    repeat' apply And.intro
                    all_goals try (first | with_reducible assumption | (with_reducible refine ck_nzI ?_; simp; done) | (with_reducible refine ck_nzL ?_; simp; done) | (with_reducible refine vp_in_nI ?_ ?_ <;> first | omega | decide) | (with_reducible refine Nat.le_of_ble_eq_true ?_; rfl) | omega | exact Or.inl trivial | exact Or.inr trivial | exact Or.inl rfl | exact Or.inr rfl)
                    refine hC.1 209 _ _ _ _ _ _ _ 2 _ _ _ _ _ _ _ _ _ _ _ _ lX8_209 (ct_X2_add l G (P := Q) hw (hE3 hg9).2.2.2.2.2.1 hc4) ⟨by decide, rfl⟩ (cx_83 hw) rfl rfl (Nat.le_of_ble_eq_true rfl) (by first | decide | omega) (by decide) (by omega) (by omega) dX8_readSum_78 ?_
                    refine hB bX8_readSum_81 _ _ _ _ _ _ _ kX8_readSum_81 ?_
                    dsimp only [bX8_readSum_81, kx_wp, kx_step, kx_lI, kx_lL, kx_lA, kx_gl, kx_pI, kx_pL, kx_pR, kx_pA, kx_pV, kx_s1, kx_s2, kx_sl, kx_pre, kx_c2, kx_pl, kx_cmp, kx_oF, kx_eqN, kx_nil, kx_c1, kx_ft, kx_aI, kx_aL, kx_aR, kx_ln, Nat.reduceAdd, Option.toList, List.cons_append, List.nil_append, cf8_0, cf8_2, cf8_9, cf9_16]
                    repeat (simp only [cx_8w0 hw, cx_8o, cx_83 hw, cx_84 hw, hQ, hs, pk_us, pk_un, ne_eq, Nat.reduceEqDiff, not_false_eq_true, hE.2.1, cx_8n (show ¬ (67:Nat) = 68 by decide), cx_f67 hw, hT, nI_clamp (show ck_sk T n S1.1 < 2 ^ 31 by omega), nI_1, ks_eq, ks_ss]; try dsimp only [kx_wp, kx_step, kx_lI, kx_lL, kx_lA, kx_gl, kx_pI, kx_pL, kx_pR, kx_pA, kx_pV, kx_s1, kx_s2, kx_sl, kx_pre, kx_c2, kx_pl, kx_cmp, kx_oF, kx_eqN, kx_nil, kx_c1, kx_ft, kx_aI, kx_aL, kx_aR, kx_ln, Nat.reduceAdd, Option.toList, List.cons_append, List.nil_append, cf8_0, cf8_2, cf8_9, cf9_16])
                    repeat' apply And.intro
                    all_goals try (first | with_reducible assumption | (with_reducible refine ck_nzI ?_; simp; done) | (with_reducible refine ck_nzL ?_; simp; done) | (with_reducible refine vp_in_nI ?_ ?_ <;> first | omega | decide) | (with_reducible refine Nat.le_of_ble_eq_true ?_; rfl) | omega | exact Or.inl trivial | exact Or.inr trivial | exact Or.inl rfl | exact Or.inr rfl)
                    · intro zc81
                      first | exact absurd rfl zc81 | exact absurd zc81 (by decide) | exact absurd (by decide) zc81 | (exfalso; first | exact zc47 (by rw [hTs]; decide) | exact zc47 hTs | exact absurd ((nI_leI (a := 400) (b := i) (by omega) (by omega)).mp zc15) (by omega)) | (exfalso; simp_all; done)
                    · intro zc81
                      have ze81 := zc81
                      refine hB bX8_readSum_84 _ _ _ _ _ _ _ kX8_readSum_84 ?_
                      dsimp only [bX8_readSum_84, kx_wp, kx_step, kx_lI, kx_lL, kx_lA, kx_gl, kx_pI, kx_pL, kx_pR, kx_pA, kx_pV, kx_s1, kx_s2, kx_sl, kx_pre, kx_c2, kx_pl, kx_cmp, kx_oF, kx_eqN, kx_nil, kx_c1, kx_ft, kx_aI, kx_aL, kx_aR, kx_ln, Nat.reduceAdd, Option.toList, List.cons_append, List.nil_append, cf8_0, cf8_2, cf8_9, cf9_16]
                      repeat (simp only [cx_8w0 hw, cx_8o, cx_83 hw, cx_84 hw, hQ, hs, pk_us, pk_un, ne_eq, Nat.reduceEqDiff, not_false_eq_true, hE.2.1, cx_8n (show ¬ (67:Nat) = 68 by decide), cx_f67 hw, hT, nI_clamp (show ck_sk T n S1.1 < 2 ^ 31 by omega), nI_1, ks_eq, ks_ss]; try dsimp only [kx_wp, kx_step, kx_lI, kx_lL, kx_lA, kx_gl, kx_pI, kx_pL, kx_pR, kx_pA, kx_pV, kx_s1, kx_s2, kx_sl, kx_pre, kx_c2, kx_pl, kx_cmp, kx_oF, kx_eqN, kx_nil, kx_c1, kx_ft, kx_aI, kx_aL, kx_aR, kx_ln, Nat.reduceAdd, Option.toList, List.cons_append, List.nil_append, cf8_0, cf8_2, cf8_9, cf9_16])
                      repeat' apply And.intro
                      all_goals try (first | with_reducible assumption | (with_reducible refine ck_nzI ?_; simp; done) | (with_reducible refine ck_nzL ?_; simp; done) | (with_reducible refine vp_in_nI ?_ ?_ <;> first | omega | decide) | (with_reducible refine Nat.le_of_ble_eq_true ?_; rfl) | omega | exact Or.inl trivial | exact Or.inr trivial | exact Or.inl rfl | exact Or.inr rfl)
                      refine hB bX8_readSum_89 _ _ _ _ _ _ _ kX8_readSum_89 ?_
                      dsimp only [bX8_readSum_89, kx_wp, kx_step, kx_lI, kx_lL, kx_lA, kx_gl, kx_pI, kx_pL, kx_pR, kx_pA, kx_pV, kx_s1, kx_s2, kx_sl, kx_pre, kx_c2, kx_pl, kx_cmp, kx_oF, kx_eqN, kx_nil, kx_c1, kx_ft, kx_aI, kx_aL, kx_aR, kx_ln, Nat.reduceAdd, Option.toList, List.cons_append, List.nil_append, cf8_0, cf8_2, cf8_9, cf9_16]
                      repeat (simp only [cx_8w0 hw, cx_8o, cx_83 hw, cx_84 hw, hQ, hs, pk_us, pk_un, ne_eq, Nat.reduceEqDiff, not_false_eq_true, hE.2.1, cx_8n (show ¬ (67:Nat) = 68 by decide), cx_f67 hw, hT, nI_clamp (show ck_sk T n S1.1 < 2 ^ 31 by omega), nI_1, ks_eq, ks_ss]; try dsimp only [kx_wp, kx_step, kx_lI, kx_lL, kx_lA, kx_gl, kx_pI, kx_pL, kx_pR, kx_pA, kx_pV, kx_s1, kx_s2, kx_sl, kx_pre, kx_c2, kx_pl, kx_cmp, kx_oF, kx_eqN, kx_nil, kx_c1, kx_ft, kx_aI, kx_aL, kx_aR, kx_ln, Nat.reduceAdd, Option.toList, List.cons_append, List.nil_append, cf8_0, cf8_2, cf8_9, cf9_16])
                      repeat' apply And.intro
                      all_goals try (first | with_reducible assumption | (with_reducible refine ck_nzI ?_; simp; done) | (with_reducible refine ck_nzL ?_; simp; done) | (with_reducible refine vp_in_nI ?_ ?_ <;> first | omega | decide) | (with_reducible refine Nat.le_of_ble_eq_true ?_; rfl) | omega | exact Or.inl trivial | exact Or.inr trivial | exact Or.inl rfl | exact Or.inr rfl)
                      have zi := ih (ck_emR 5 0 (U (ck_sk T n S1.1 + 1, S1.2))) F2 _ _ (i + 1) (some (.int (-5))) (fun _ => (hE3 hg9).em (Or.inr ⟨5, by decide, by decide, rfl, rfl⟩)) (fun q => absurd hg9 q) (ck_sl_0 o1.1) (ck_lv_g o1 hlv1) (fun _ => by have := hnn hg; omega) (by omega) he9
                      rw [cx_b1 (show (ck_emR 5 0 (U (ck_sk T n S1.1 + 1, S1.2))).2.1 = -1 from hg9)] at zi
                      exact zi
                · intro zc47
                  first | exact absurd rfl zc47 | exact absurd zc47 (by decide) | exact absurd (by decide) zc47 | (exfalso; first | exact zc47 (by rw [hTs]; decide) | exact zc47 hTs | exact absurd ((nI_leI (a := 400) (b := i) (by omega) (by omega)).mp zc15) (by omega)) | (exfalso; simp_all; done)
      · rw [cx_b1 hg]
        have hle := ck_sk_le T hsl1.1
        have hE := hE hg
        have hTf : cx_fW Q w Fo1 st1 67 = kI 0 400 T := (cx_f67 hw).trans hT
        have hlt : ck_sk T n S1.1 < n := cx_nx_lt hop (by decide)
        have hTs : T (ck_sk T n S1.1) = 45 := (if_pos hlt).symm.trans hop
        have hn43 := ct_X8_nextIs_f (l := l) (G := G) (sz := sz) (x := .ref w) hTf hE.1 hn hE.2.1 hle.2 (ch := 43) (by decide) (show ¬ ck_hcx T n S1.1 = 43 by rw [hop]; decide)
        have hn45 := ct_X8_nextIs_t (l := l) (G := G) (sz := sz) (x := .ref w) hTf hE.1 hn hE.2.1 hle.2 (ch := 45) (by decide) hop
        have hE2 : cx_E T n (ck_sk T n S1.1 + 1, S1.2) (upd F1 2 (nI (ck_sk T n (ck_sk T n S1.1 + 1)))) Fo1 st1 := ⟨hE.1, rfl, hE.2.2.1, hE.2.2.2.1, hE.2.2.2.2.1, hE.2.2.2.2.2.1, hE.2.2.2.2.2.2⟩
        have hslA : ck_sl n 0 (ck_sk T n S1.1 + 1, S1.2) := ⟨hlt, fun q => Nat.le_trans (hsl1.2 hg) (Nat.le_succ_of_le hle.1)⟩
        have hlvA : ck_lv N (ck_sk T n S1.1 + 1, S1.2) := fun q => hlv1 hg
        obtain ⟨o1, o2⟩ := ck_one_g (T := T) (w := 5) hUg hsl1 hg (show ¬ ck_hcx T n S1.1 = 0 by rw [hop]; decide)
        have hUA := hUg 1 (ck_sk T n S1.1 + 1, S1.2) ⟨hlt, fun q => by have := hsl1.2 hg; show S1.2.2.2.2.1 + 1 ≤ ck_sk T n S1.1 + 1; omega⟩
        have he9 : (if S1.2.1 = -1 ∧ (ck_hcx T n S1.1 = 43 ∨ ck_hcx T n S1.1 = 45) then ck_lpw T n U n9 (ck_one T n U (if ck_hcx T n S1.1 = 43 then 4 else 5) S1) else ck_ex T n S1) = ck_lpwT T n U S := he9
        rw [if_pos ⟨hg, (fun z => Or.inr <| z) hop⟩, if_neg (show ¬ ck_hcx T n S1.1 = 43 by rw [hop]; decide)] at he9
        have h99 : ck_one T n U 5 S1 = U (ck_sk T n S1.1 + 1, S1.2) := if_neg hg9
        rw [h99] at o1 o2 he9
        have hb9 := cx_b0 hg9
        refine hB bX8_readSum_7 _ _ _ _ _ _ _ kX8_readSum_7 ?_
        dsimp only [bX8_readSum_7, kx_wp, kx_step, kx_lI, kx_lL, kx_lA, kx_gl, kx_pI, kx_pL, kx_pR, kx_pA, kx_pV, kx_s1, kx_s2, kx_sl, kx_pre, kx_c2, kx_pl, kx_cmp, kx_oF, kx_eqN, kx_nil, kx_c1, kx_ft, kx_aI, kx_aL, kx_aR, kx_ln, Nat.reduceAdd, Option.toList, List.cons_append, List.nil_append, cf8_0, cf8_2, cf8_9, cf9_16]
        repeat (simp only [cx_8w0 hw, cx_8o, cx_83 hw, cx_84 hw, hQ, hs, pk_us, pk_un, ne_eq, Nat.reduceEqDiff, not_false_eq_true, hE.2.1, cx_8n (show ¬ (67:Nat) = 68 by decide), cx_f67 hw, hT, nI_clamp (show ck_sk T n S1.1 < 2 ^ 31 by omega), nI_1, ks_eq, ks_ss]; try dsimp only [kx_wp, kx_step, kx_lI, kx_lL, kx_lA, kx_gl, kx_pI, kx_pL, kx_pR, kx_pA, kx_pV, kx_s1, kx_s2, kx_sl, kx_pre, kx_c2, kx_pl, kx_cmp, kx_oF, kx_eqN, kx_nil, kx_c1, kx_ft, kx_aI, kx_aL, kx_aR, kx_ln, Nat.reduceAdd, Option.toList, List.cons_append, List.nil_append, cf8_0, cf8_2, cf8_9, cf9_16])
        repeat' apply And.intro
        all_goals try (first | with_reducible assumption | (with_reducible refine ck_nzI ?_; simp; done) | (with_reducible refine ck_nzL ?_; simp; done) | (with_reducible refine vp_in_nI ?_ ?_ <;> first | omega | decide) | (with_reducible refine Nat.le_of_ble_eq_true ?_; rfl) | omega | exact Or.inl trivial | exact Or.inr trivial | exact Or.inl rfl | exact Or.inr rfl)
        · intro zc8
          first | exact absurd rfl zc8 | exact absurd zc8 (by decide) | exact absurd (by decide) zc8 | (exfalso; first | exact zc47 (by rw [hTs]; decide) | exact zc47 hTs | exact absurd ((nI_leI (a := 400) (b := i) (by omega) (by omega)).mp zc15) (by omega)) | (exfalso; simp_all; done)
        · intro zc8
          have ze8 := zc8
          refine hB bX8_readSum_11 _ _ _ _ _ _ _ kX8_readSum_11 ?_
          dsimp only [bX8_readSum_11, kx_wp, kx_step, kx_lI, kx_lL, kx_lA, kx_gl, kx_pI, kx_pL, kx_pR, kx_pA, kx_pV, kx_s1, kx_s2, kx_sl, kx_pre, kx_c2, kx_pl, kx_cmp, kx_oF, kx_eqN, kx_nil, kx_c1, kx_ft, kx_aI, kx_aL, kx_aR, kx_ln, Nat.reduceAdd, Option.toList, List.cons_append, List.nil_append, cf8_0, cf8_2, cf8_9, cf9_16]
          repeat (simp only [cx_8w0 hw, cx_8o, cx_83 hw, cx_84 hw, hQ, hs, pk_us, pk_un, ne_eq, Nat.reduceEqDiff, not_false_eq_true, hE.2.1, cx_8n (show ¬ (67:Nat) = 68 by decide), cx_f67 hw, hT, nI_clamp (show ck_sk T n S1.1 < 2 ^ 31 by omega), nI_1, ks_eq, ks_ss]; try dsimp only [kx_wp, kx_step, kx_lI, kx_lL, kx_lA, kx_gl, kx_pI, kx_pL, kx_pR, kx_pA, kx_pV, kx_s1, kx_s2, kx_sl, kx_pre, kx_c2, kx_pl, kx_cmp, kx_oF, kx_eqN, kx_nil, kx_c1, kx_ft, kx_aI, kx_aL, kx_aR, kx_ln, Nat.reduceAdd, Option.toList, List.cons_append, List.nil_append, cf8_0, cf8_2, cf8_9, cf9_16])
          repeat' apply And.intro
          all_goals try (first | with_reducible assumption | (with_reducible refine ck_nzI ?_; simp; done) | (with_reducible refine ck_nzL ?_; simp; done) | (with_reducible refine vp_in_nI ?_ ?_ <;> first | omega | decide) | (with_reducible refine Nat.le_of_ble_eq_true ?_; rfl) | omega | exact Or.inl trivial | exact Or.inr trivial | exact Or.inl rfl | exact Or.inr rfl)
          · intro zc15
            first | exact absurd rfl zc15 | exact absurd zc15 (by decide) | exact absurd (by decide) zc15 | (exfalso; first | exact zc47 (by rw [hTs]; decide) | exact zc47 hTs | exact absurd ((nI_leI (a := 400) (b := i) (by omega) (by omega)).mp zc15) (by omega)) | (exfalso; simp_all; done)
          · intro zc15
            with_reducible first | have ze15 := Int32.not_le.mp zc15 | have ze15 := zc15
            refine hB bX8_readSum_18 _ _ _ _ _ _ _ kX8_readSum_18 ?_
            dsimp only [bX8_readSum_18, kx_wp, kx_step, kx_lI, kx_lL, kx_lA, kx_gl, kx_pI, kx_pL, kx_pR, kx_pA, kx_pV, kx_s1, kx_s2, kx_sl, kx_pre, kx_c2, kx_pl, kx_cmp, kx_oF, kx_eqN, kx_nil, kx_c1, kx_ft, kx_aI, kx_aL, kx_aR, kx_ln, Nat.reduceAdd, Option.toList, List.cons_append, List.nil_append, cf8_0, cf8_2, cf8_9, cf9_16]
            repeat (simp only [cx_8w0 hw, cx_8o, cx_83 hw, cx_84 hw, hQ, hs, pk_us, pk_un, ne_eq, Nat.reduceEqDiff, not_false_eq_true, hE.2.1, cx_8n (show ¬ (67:Nat) = 68 by decide), cx_f67 hw, hT, nI_clamp (show ck_sk T n S1.1 < 2 ^ 31 by omega), nI_1, ks_eq, ks_ss]; try dsimp only [kx_wp, kx_step, kx_lI, kx_lL, kx_lA, kx_gl, kx_pI, kx_pL, kx_pR, kx_pA, kx_pV, kx_s1, kx_s2, kx_sl, kx_pre, kx_c2, kx_pl, kx_cmp, kx_oF, kx_eqN, kx_nil, kx_c1, kx_ft, kx_aI, kx_aL, kx_aR, kx_ln, Nat.reduceAdd, Option.toList, List.cons_append, List.nil_append, cf8_0, cf8_2, cf8_9, cf9_16])
            repeat' apply And.intro
            all_goals try (first | with_reducible assumption | (with_reducible refine ck_nzI ?_; simp; done) | (with_reducible refine ck_nzL ?_; simp; done) | (with_reducible refine vp_in_nI ?_ ?_ <;> first | omega | decide) | (with_reducible refine Nat.le_of_ble_eq_true ?_; rfl) | omega | exact Or.inl trivial | exact Or.inr trivial | exact Or.inl rfl | exact Or.inr rfl)
            refine hC.1 54 _ _ _ _ _ _ _ 8 _ _ _ _ _ _ _ _ _ _ _ _ lX8_54 (hn43) ⟨by decide, rfl⟩ (cx_8o) rfl rfl (Nat.le_of_ble_eq_true rfl) (by first | decide | omega) (by decide) (by omega) (by omega) dX8_readSum_21 ?_
            refine hB bX8_readSum_24 _ _ _ _ _ _ _ kX8_readSum_24 ?_
            dsimp only [bX8_readSum_24, kx_wp, kx_step, kx_lI, kx_lL, kx_lA, kx_gl, kx_pI, kx_pL, kx_pR, kx_pA, kx_pV, kx_s1, kx_s2, kx_sl, kx_pre, kx_c2, kx_pl, kx_cmp, kx_oF, kx_eqN, kx_nil, kx_c1, kx_ft, kx_aI, kx_aL, kx_aR, kx_ln, Nat.reduceAdd, Option.toList, List.cons_append, List.nil_append, cf8_0, cf8_2, cf8_9, cf9_16]
            repeat (simp only [cx_8w0 hw, cx_8o, cx_83 hw, cx_84 hw, hQ, hs, pk_us, pk_un, ne_eq, Nat.reduceEqDiff, not_false_eq_true, hE.2.1, cx_8n (show ¬ (67:Nat) = 68 by decide), cx_f67 hw, hT, nI_clamp (show ck_sk T n S1.1 < 2 ^ 31 by omega), nI_1, ks_eq, ks_ss]; try dsimp only [kx_wp, kx_step, kx_lI, kx_lL, kx_lA, kx_gl, kx_pI, kx_pL, kx_pR, kx_pA, kx_pV, kx_s1, kx_s2, kx_sl, kx_pre, kx_c2, kx_pl, kx_cmp, kx_oF, kx_eqN, kx_nil, kx_c1, kx_ft, kx_aI, kx_aL, kx_aR, kx_ln, Nat.reduceAdd, Option.toList, List.cons_append, List.nil_append, cf8_0, cf8_2, cf8_9, cf9_16])
            repeat' apply And.intro
            all_goals try (first | with_reducible assumption | (with_reducible refine ck_nzI ?_; simp; done) | (with_reducible refine ck_nzL ?_; simp; done) | (with_reducible refine vp_in_nI ?_ ?_ <;> first | omega | decide) | (with_reducible refine Nat.le_of_ble_eq_true ?_; rfl) | omega | exact Or.inl trivial | exact Or.inr trivial | exact Or.inl rfl | exact Or.inr rfl)
            · intro zc24
              first | exact absurd rfl zc24 | exact absurd zc24 (by decide) | exact absurd (by decide) zc24 | (exfalso; first | exact zc47 (by rw [hTs]; decide) | exact zc47 hTs | exact absurd ((nI_leI (a := 400) (b := i) (by omega) (by omega)).mp zc15) (by omega)) | (exfalso; simp_all; done)
            · intro zc24
              with_reducible first | have ze24 := Decidable.not_not.mp zc24 | have ze24 := zc24
              refine hB bX8_readSum_27 _ _ _ _ _ _ _ kX8_readSum_27 ?_
              dsimp only [bX8_readSum_27, kx_wp, kx_step, kx_lI, kx_lL, kx_lA, kx_gl, kx_pI, kx_pL, kx_pR, kx_pA, kx_pV, kx_s1, kx_s2, kx_sl, kx_pre, kx_c2, kx_pl, kx_cmp, kx_oF, kx_eqN, kx_nil, kx_c1, kx_ft, kx_aI, kx_aL, kx_aR, kx_ln, Nat.reduceAdd, Option.toList, List.cons_append, List.nil_append, cf8_0, cf8_2, cf8_9, cf9_16]
              repeat (simp only [cx_8w0 hw, cx_8o, cx_83 hw, cx_84 hw, hQ, hs, pk_us, pk_un, ne_eq, Nat.reduceEqDiff, not_false_eq_true, hE.2.1, cx_8n (show ¬ (67:Nat) = 68 by decide), cx_f67 hw, hT, nI_clamp (show ck_sk T n S1.1 < 2 ^ 31 by omega), nI_1, ks_eq, ks_ss]; try dsimp only [kx_wp, kx_step, kx_lI, kx_lL, kx_lA, kx_gl, kx_pI, kx_pL, kx_pR, kx_pA, kx_pV, kx_s1, kx_s2, kx_sl, kx_pre, kx_c2, kx_pl, kx_cmp, kx_oF, kx_eqN, kx_nil, kx_c1, kx_ft, kx_aI, kx_aL, kx_aR, kx_ln, Nat.reduceAdd, Option.toList, List.cons_append, List.nil_append, cf8_0, cf8_2, cf8_9, cf9_16])
              repeat' apply And.intro
              all_goals try (first | with_reducible assumption | (with_reducible refine ck_nzI ?_; simp; done) | (with_reducible refine ck_nzL ?_; simp; done) | (with_reducible refine vp_in_nI ?_ ?_ <;> first | omega | decide) | (with_reducible refine Nat.le_of_ble_eq_true ?_; rfl) | omega | exact Or.inl trivial | exact Or.inr trivial | exact Or.inl rfl | exact Or.inr rfl)
              refine hC.1 54 _ _ _ _ _ _ _ 8 _ _ _ _ _ _ _ _ _ _ _ _ lX8_54 (hn45) ⟨by decide, rfl⟩ (cx_8o) rfl rfl (Nat.le_of_ble_eq_true rfl) (by first | decide | omega) (by decide) (by omega) (by omega) dX8_readSum_30 ?_
              refine hB bX8_readSum_33 _ _ _ _ _ _ _ kX8_readSum_33 ?_
              dsimp only [bX8_readSum_33, kx_wp, kx_step, kx_lI, kx_lL, kx_lA, kx_gl, kx_pI, kx_pL, kx_pR, kx_pA, kx_pV, kx_s1, kx_s2, kx_sl, kx_pre, kx_c2, kx_pl, kx_cmp, kx_oF, kx_eqN, kx_nil, kx_c1, kx_ft, kx_aI, kx_aL, kx_aR, kx_ln, Nat.reduceAdd, Option.toList, List.cons_append, List.nil_append, cf8_0, cf8_2, cf8_9, cf9_16]
              repeat (simp only [cx_8w0 hw, cx_8o, cx_83 hw, cx_84 hw, hQ, hs, pk_us, pk_un, ne_eq, Nat.reduceEqDiff, not_false_eq_true, hE.2.1, cx_8n (show ¬ (67:Nat) = 68 by decide), cx_f67 hw, hT, nI_clamp (show ck_sk T n S1.1 < 2 ^ 31 by omega), nI_1, ks_eq, ks_ss]; try dsimp only [kx_wp, kx_step, kx_lI, kx_lL, kx_lA, kx_gl, kx_pI, kx_pL, kx_pR, kx_pA, kx_pV, kx_s1, kx_s2, kx_sl, kx_pre, kx_c2, kx_pl, kx_cmp, kx_oF, kx_eqN, kx_nil, kx_c1, kx_ft, kx_aI, kx_aL, kx_aR, kx_ln, Nat.reduceAdd, Option.toList, List.cons_append, List.nil_append, cf8_0, cf8_2, cf8_9, cf9_16])
              repeat' apply And.intro
              all_goals try (first | with_reducible assumption | (with_reducible refine ck_nzI ?_; simp; done) | (with_reducible refine ck_nzL ?_; simp; done) | (with_reducible refine vp_in_nI ?_ ?_ <;> first | omega | decide) | (with_reducible refine Nat.le_of_ble_eq_true ?_; rfl) | omega | exact Or.inl trivial | exact Or.inr trivial | exact Or.inl rfl | exact Or.inr rfl)
              · intro zc33
                first | exact absurd rfl zc33 | exact absurd zc33 (by decide) | exact absurd (by decide) zc33 | (exfalso; first | exact zc47 (by rw [hTs]; decide) | exact zc47 hTs | exact absurd ((nI_leI (a := 400) (b := i) (by omega) (by omega)).mp zc15) (by omega)) | (exfalso; simp_all; done)
              · intro zc33
                have ze33 := zc33
                refine hB bX8_readSum_36 _ _ _ _ _ _ _ kX8_readSum_36 ?_
                dsimp only [bX8_readSum_36, kx_wp, kx_step, kx_lI, kx_lL, kx_lA, kx_gl, kx_pI, kx_pL, kx_pR, kx_pA, kx_pV, kx_s1, kx_s2, kx_sl, kx_pre, kx_c2, kx_pl, kx_cmp, kx_oF, kx_eqN, kx_nil, kx_c1, kx_ft, kx_aI, kx_aL, kx_aR, kx_ln, Nat.reduceAdd, Option.toList, List.cons_append, List.nil_append, cf8_0, cf8_2, cf8_9, cf9_16]
                repeat (simp only [cx_8w0 hw, cx_8o, cx_83 hw, cx_84 hw, hQ, hs, pk_us, pk_un, ne_eq, Nat.reduceEqDiff, not_false_eq_true, hE.2.1, cx_8n (show ¬ (67:Nat) = 68 by decide), cx_f67 hw, hT, nI_clamp (show ck_sk T n S1.1 < 2 ^ 31 by omega), nI_1, ks_eq, ks_ss]; try dsimp only [kx_wp, kx_step, kx_lI, kx_lL, kx_lA, kx_gl, kx_pI, kx_pL, kx_pR, kx_pA, kx_pV, kx_s1, kx_s2, kx_sl, kx_pre, kx_c2, kx_pl, kx_cmp, kx_oF, kx_eqN, kx_nil, kx_c1, kx_ft, kx_aI, kx_aL, kx_aR, kx_ln, Nat.reduceAdd, Option.toList, List.cons_append, List.nil_append, cf8_0, cf8_2, cf8_9, cf9_16])
                repeat' apply And.intro
                all_goals try (first | with_reducible assumption | (with_reducible refine ck_nzI ?_; simp; done) | (with_reducible refine ck_nzL ?_; simp; done) | (with_reducible refine vp_in_nI ?_ ?_ <;> first | omega | decide) | (with_reducible refine Nat.le_of_ble_eq_true ?_; rfl) | omega | exact Or.inl trivial | exact Or.inr trivial | exact Or.inl rfl | exact Or.inr rfl)
                · intro zc47
                  have ze47 := zc47
                  refine hB bX8_readSum_55 _ _ _ _ _ _ _ kX8_readSum_55 ?_
                  dsimp only [bX8_readSum_55, kx_wp, kx_step, kx_lI, kx_lL, kx_lA, kx_gl, kx_pI, kx_pL, kx_pR, kx_pA, kx_pV, kx_s1, kx_s2, kx_sl, kx_pre, kx_c2, kx_pl, kx_cmp, kx_oF, kx_eqN, kx_nil, kx_c1, kx_ft, kx_aI, kx_aL, kx_aR, kx_ln, Nat.reduceAdd, Option.toList, List.cons_append, List.nil_append, cf8_0, cf8_2, cf8_9, cf9_16]
                  repeat (simp only [cx_8w0 hw, cx_8o, cx_83 hw, cx_84 hw, hQ, hs, pk_us, pk_un, ne_eq, Nat.reduceEqDiff, not_false_eq_true, hE.2.1, cx_8n (show ¬ (67:Nat) = 68 by decide), cx_f67 hw, hT, nI_clamp (show ck_sk T n S1.1 < 2 ^ 31 by omega), nI_1, ks_eq, ks_ss]; try dsimp only [kx_wp, kx_step, kx_lI, kx_lL, kx_lA, kx_gl, kx_pI, kx_pL, kx_pR, kx_pA, kx_pV, kx_s1, kx_s2, kx_sl, kx_pre, kx_c2, kx_pl, kx_cmp, kx_oF, kx_eqN, kx_nil, kx_c1, kx_ft, kx_aI, kx_aL, kx_aR, kx_ln, Nat.reduceAdd, Option.toList, List.cons_append, List.nil_append, cf8_0, cf8_2, cf8_9, cf9_16])
                  repeat' apply And.intro
                  all_goals try (first | with_reducible assumption | (with_reducible refine ck_nzI ?_; simp; done) | (with_reducible refine ck_nzL ?_; simp; done) | (with_reducible refine vp_in_nI ?_ ?_ <;> first | omega | decide) | (with_reducible refine Nat.le_of_ble_eq_true ?_; rfl) | omega | exact Or.inl trivial | exact Or.inr trivial | exact Or.inl rfl | exact Or.inr rfl)
                  refine hB bX8_readSum_57 _ _ _ _ _ _ _ kX8_readSum_57 ?_
                  dsimp only [bX8_readSum_57, kx_wp, kx_step, kx_lI, kx_lL, kx_lA, kx_gl, kx_pI, kx_pL, kx_pR, kx_pA, kx_pV, kx_s1, kx_s2, kx_sl, kx_pre, kx_c2, kx_pl, kx_cmp, kx_oF, kx_eqN, kx_nil, kx_c1, kx_ft, kx_aI, kx_aL, kx_aR, kx_ln, Nat.reduceAdd, Option.toList, List.cons_append, List.nil_append, cf8_0, cf8_2, cf8_9, cf9_16]
                  repeat (simp only [cx_8w0 hw, cx_8o, cx_83 hw, cx_84 hw, hQ, hs, pk_us, pk_un, ne_eq, Nat.reduceEqDiff, not_false_eq_true, hE.2.1, cx_8n (show ¬ (67:Nat) = 68 by decide), cx_f67 hw, hT, nI_clamp (show ck_sk T n S1.1 < 2 ^ 31 by omega), nI_1, ks_eq, ks_ss]; try dsimp only [kx_wp, kx_step, kx_lI, kx_lL, kx_lA, kx_gl, kx_pI, kx_pL, kx_pR, kx_pA, kx_pV, kx_s1, kx_s2, kx_sl, kx_pre, kx_c2, kx_pl, kx_cmp, kx_oF, kx_eqN, kx_nil, kx_c1, kx_ft, kx_aI, kx_aL, kx_aR, kx_ln, Nat.reduceAdd, Option.toList, List.cons_append, List.nil_append, cf8_0, cf8_2, cf8_9, cf9_16])
                  repeat' apply And.intro
                  all_goals try (first | with_reducible assumption | (with_reducible refine ck_nzI ?_; simp; done) | (with_reducible refine ck_nzL ?_; simp; done) | (with_reducible refine vp_in_nI ?_ ?_ <;> first | omega | decide) | (with_reducible refine Nat.le_of_ble_eq_true ?_; rfl) | omega | exact Or.inl trivial | exact Or.inr trivial | exact Or.inl rfl | exact Or.inr rfl)
                  refine hC.1 46 _ _ _ _ _ _ _ 8 _ _ _ _ _ _ _ _ _ _ _ _ lX8_46 (ct_X8_skip1 l G (x := .ref w) hTf hE.1 hn hE.2.1 hlt) ⟨by decide, rfl⟩ (cx_8o) rfl rfl (Nat.le_of_ble_eq_true rfl) (by first | decide | omega) (by decide) (by omega) (by omega) dX8_readSum_60 ?_
                  dsimp only [Option.toList, List.cons_append, List.nil_append]
                  refine hB bX8_readSum_63 _ _ _ _ _ _ _ kX8_readSum_63 ?_
                  dsimp only [bX8_readSum_63, kx_wp, kx_step, kx_lI, kx_lL, kx_lA, kx_gl, kx_pI, kx_pL, kx_pR, kx_pA, kx_pV, kx_s1, kx_s2, kx_sl, kx_pre, kx_c2, kx_pl, kx_cmp, kx_oF, kx_eqN, kx_nil, kx_c1, kx_ft, kx_aI, kx_aL, kx_aR, kx_ln, Nat.reduceAdd, Option.toList, List.cons_append, List.nil_append, cf8_0, cf8_2, cf8_9, cf9_16]
                  repeat (simp only [cx_8w0 hw, cx_8o, cx_83 hw, cx_84 hw, hQ, hs, pk_us, pk_un, ne_eq, Nat.reduceEqDiff, not_false_eq_true, hE.2.1, cx_8n (show ¬ (67:Nat) = 68 by decide), cx_f67 hw, hT, nI_clamp (show ck_sk T n S1.1 < 2 ^ 31 by omega), nI_1, ks_eq, ks_ss]; try dsimp only [kx_wp, kx_step, kx_lI, kx_lL, kx_lA, kx_gl, kx_pI, kx_pL, kx_pR, kx_pA, kx_pV, kx_s1, kx_s2, kx_sl, kx_pre, kx_c2, kx_pl, kx_cmp, kx_oF, kx_eqN, kx_nil, kx_c1, kx_ft, kx_aI, kx_aL, kx_aR, kx_ln, Nat.reduceAdd, Option.toList, List.cons_append, List.nil_append, cf8_0, cf8_2, cf8_9, cf9_16])
                  repeat' apply And.intro
                  all_goals try (first | with_reducible assumption | (with_reducible refine ck_nzI ?_; simp; done) | (with_reducible refine ck_nzL ?_; simp; done) | (with_reducible refine vp_in_nI ?_ ?_ <;> first | omega | decide) | (with_reducible refine Nat.le_of_ble_eq_true ?_; rfl) | omega | exact Or.inl trivial | exact Or.inr trivial | exact Or.inl rfl | exact Or.inr rfl)
                  refine hN.1 201 _ _ _ _ _ _ _ 8 _ _ _ _ _ _ _ _ _ _ lX8_201 (hU (ck_sk T n S1.1 + 1, S1.2) hg hslA hlvA _ _ _ hE2) ⟨by decide, rfl⟩ (cx_8o) rfl rfl (Nat.le_of_ble_eq_true rfl) (by omega) (by decide) (by omega) (by omega) dX8_readSum_64 ?_
                  rintro r2 P2 s2 ⟨F2, Fo2, st2, rfl, rfl, rfl, hE3, hX3⟩
                  rw [hb9]
                  dsimp only [Option.toList, List.cons_append, List.nil_append]
                  refine hB bX8_readSum_67 _ _ _ _ _ _ _ kX8_readSum_67 ?_
                  dsimp only [bX8_readSum_67, kx_wp, kx_step, kx_lI, kx_lL, kx_lA, kx_gl, kx_pI, kx_pL, kx_pR, kx_pA, kx_pV, kx_s1, kx_s2, kx_sl, kx_pre, kx_c2, kx_pl, kx_cmp, kx_oF, kx_eqN, kx_nil, kx_c1, kx_ft, kx_aI, kx_aL, kx_aR, kx_ln, Nat.reduceAdd, Option.toList, List.cons_append, List.nil_append, cf8_0, cf8_2, cf8_9, cf9_16]
                  repeat (simp only [cx_8w0 hw, cx_8o, cx_83 hw, cx_84 hw, hQ, hs, pk_us, pk_un, ne_eq, Nat.reduceEqDiff, not_false_eq_true, hE.2.1, cx_8n (show ¬ (67:Nat) = 68 by decide), cx_f67 hw, hT, nI_clamp (show ck_sk T n S1.1 < 2 ^ 31 by omega), nI_1, ks_eq, ks_ss]; try dsimp only [kx_wp, kx_step, kx_lI, kx_lL, kx_lA, kx_gl, kx_pI, kx_pL, kx_pR, kx_pA, kx_pV, kx_s1, kx_s2, kx_sl, kx_pre, kx_c2, kx_pl, kx_cmp, kx_oF, kx_eqN, kx_nil, kx_c1, kx_ft, kx_aI, kx_aL, kx_aR, kx_ln, Nat.reduceAdd, Option.toList, List.cons_append, List.nil_append, cf8_0, cf8_2, cf8_9, cf9_16])
                  repeat' apply And.intro
                  all_goals try (first | with_reducible assumption | (with_reducible refine ck_nzI ?_; simp; done) | (with_reducible refine ck_nzL ?_; simp; done) | (with_reducible refine vp_in_nI ?_ ?_ <;> first | omega | decide) | (with_reducible refine Nat.le_of_ble_eq_true ?_; rfl) | omega | exact Or.inl trivial | exact Or.inr trivial | exact Or.inl rfl | exact Or.inr rfl)
                  · intro zc67
                    have ze67 := zc67
                    refine hB bX8_readSum_88 _ _ _ _ _ _ _ kX8_readSum_88 ?_
                    dsimp only [bX8_readSum_88, kx_wp, kx_step, kx_lI, kx_lL, kx_lA, kx_gl, kx_pI, kx_pL, kx_pR, kx_pA, kx_pV, kx_s1, kx_s2, kx_sl, kx_pre, kx_c2, kx_pl, kx_cmp, kx_oF, kx_eqN, kx_nil, kx_c1, kx_ft, kx_aI, kx_aL, kx_aR, kx_ln, Nat.reduceAdd, Option.toList, List.cons_append, List.nil_append, cf8_0, cf8_2, cf8_9, cf9_16]
                    repeat (simp only [cx_8w0 hw, cx_8o, cx_83 hw, cx_84 hw, hQ, hs, pk_us, pk_un, ne_eq, Nat.reduceEqDiff, not_false_eq_true, hE.2.1, cx_8n (show ¬ (67:Nat) = 68 by decide), cx_f67 hw, hT, nI_clamp (show ck_sk T n S1.1 < 2 ^ 31 by omega), nI_1, ks_eq, ks_ss]; try dsimp only [kx_wp, kx_step, kx_lI, kx_lL, kx_lA, kx_gl, kx_pI, kx_pL, kx_pR, kx_pA, kx_pV, kx_s1, kx_s2, kx_sl, kx_pre, kx_c2, kx_pl, kx_cmp, kx_oF, kx_eqN, kx_nil, kx_c1, kx_ft, kx_aI, kx_aL, kx_aR, kx_ln, Nat.reduceAdd, Option.toList, List.cons_append, List.nil_append, cf8_0, cf8_2, cf8_9, cf9_16])
                    repeat' apply And.intro
                    all_goals try (first | with_reducible assumption | (with_reducible refine ck_nzI ?_; simp; done) | (with_reducible refine ck_nzL ?_; simp; done) | (with_reducible refine vp_in_nI ?_ ?_ <;> first | omega | decide) | (with_reducible refine Nat.le_of_ble_eq_true ?_; rfl) | omega | exact Or.inl trivial | exact Or.inr trivial | exact Or.inl rfl | exact Or.inr rfl)
                    refine hB bX8_readSum_89 _ _ _ _ _ _ _ kX8_readSum_89 ?_
                    dsimp only [bX8_readSum_89, kx_wp, kx_step, kx_lI, kx_lL, kx_lA, kx_gl, kx_pI, kx_pL, kx_pR, kx_pA, kx_pV, kx_s1, kx_s2, kx_sl, kx_pre, kx_c2, kx_pl, kx_cmp, kx_oF, kx_eqN, kx_nil, kx_c1, kx_ft, kx_aI, kx_aL, kx_aR, kx_ln, Nat.reduceAdd, Option.toList, List.cons_append, List.nil_append, cf8_0, cf8_2, cf8_9, cf9_16]
                    repeat (simp only [cx_8w0 hw, cx_8o, cx_83 hw, cx_84 hw, hQ, hs, pk_us, pk_un, ne_eq, Nat.reduceEqDiff, not_false_eq_true, hE.2.1, cx_8n (show ¬ (67:Nat) = 68 by decide), cx_f67 hw, hT, nI_clamp (show ck_sk T n S1.1 < 2 ^ 31 by omega), nI_1, ks_eq, ks_ss]; try dsimp only [kx_wp, kx_step, kx_lI, kx_lL, kx_lA, kx_gl, kx_pI, kx_pL, kx_pR, kx_pA, kx_pV, kx_s1, kx_s2, kx_sl, kx_pre, kx_c2, kx_pl, kx_cmp, kx_oF, kx_eqN, kx_nil, kx_c1, kx_ft, kx_aI, kx_aL, kx_aR, kx_ln, Nat.reduceAdd, Option.toList, List.cons_append, List.nil_append, cf8_0, cf8_2, cf8_9, cf9_16])
                    repeat' apply And.intro
                    all_goals try (first | with_reducible assumption | (with_reducible refine ck_nzI ?_; simp; done) | (with_reducible refine ck_nzL ?_; simp; done) | (with_reducible refine vp_in_nI ?_ ?_ <;> first | omega | decide) | (with_reducible refine Nat.le_of_ble_eq_true ?_; rfl) | omega | exact Or.inl trivial | exact Or.inr trivial | exact Or.inl rfl | exact Or.inr rfl)
                    have zi := ih (U (ck_sk T n S1.1 + 1, S1.2)) F2 Fo2 st2 (i + 1) (some (.int (-5))) (fun q => absurd q hg9) hX3 (ck_sl_0 o1.1) (ck_lv_g o1 hlv1) (fun _ => by have := hnn hg; omega) (by omega) he9
                    rw [hb9] at zi
                    exact zi
                  · intro zc67
                    first | exact absurd rfl zc67 | exact absurd zc67 (by decide) | exact absurd (by decide) zc67 | (exfalso; first | exact zc47 (by rw [hTs]; decide) | exact zc47 hTs | exact absurd ((nI_leI (a := 400) (b := i) (by omega) (by omega)).mp zc15) (by omega)) | (exfalso; simp_all; done)
                · intro zc47
                  first | exact absurd rfl zc47 | exact absurd zc47 (by decide) | exact absurd (by decide) zc47 | (exfalso; first | exact zc47 (by rw [hTs]; decide) | exact zc47 hTs | exact absurd ((nI_leI (a := 400) (b := i) (by omega) (by omega)).mp zc15) (by omega)) | (exfalso; simp_all; done)
  refine hB bX8_readSum_0 _ _ _ _ _ _ _ kX8_readSum_0 ?_
  dsimp only [bX8_readSum_0, kx_wp, kx_step, kx_lI, kx_lL, kx_lA, kx_gl, kx_pI, kx_pL, kx_pR, kx_pA, kx_pV, kx_s1, kx_s2, kx_sl, kx_pre, kx_c2, kx_pl, kx_cmp, kx_oF, kx_eqN, kx_nil, kx_c1, kx_ft, kx_aI, kx_aL, kx_aR, kx_ln, Nat.reduceAdd, Option.toList, List.cons_append, List.nil_append, cf8_0, cf8_2, cf8_9, cf9_16]
  repeat (simp only [cx_8w0 hw, cx_8o, cx_83 hw, cx_84 hw, hQ, hs, pk_us, pk_un, ne_eq, Nat.reduceEqDiff, not_false_eq_true, hE.2.1, cx_8n (show ¬ (67:Nat) = 68 by decide), cx_f67 hw, hT, nI_clamp (show ck_sk T n S1.1 < 2 ^ 31 by omega), nI_1, ks_eq, ks_ss]; try dsimp only [kx_wp, kx_step, kx_lI, kx_lL, kx_lA, kx_gl, kx_pI, kx_pL, kx_pR, kx_pA, kx_pV, kx_s1, kx_s2, kx_sl, kx_pre, kx_c2, kx_pl, kx_cmp, kx_oF, kx_eqN, kx_nil, kx_c1, kx_ft, kx_aI, kx_aL, kx_aR, kx_ln, Nat.reduceAdd, Option.toList, List.cons_append, List.nil_append, cf8_0, cf8_2, cf8_9, cf9_16])
  repeat' apply And.intro
  all_goals try (first | with_reducible assumption | (with_reducible refine ck_nzI ?_; simp; done) | (with_reducible refine ck_nzL ?_; simp; done) | (with_reducible refine vp_in_nI ?_ ?_ <;> first | omega | decide) | (with_reducible refine Nat.le_of_ble_eq_true ?_; rfl) | omega | exact Or.inl trivial | exact Or.inr trivial | exact Or.inl rfl | exact Or.inr rfl)
  refine hN.1 201 _ _ _ _ _ _ _ 8 _ _ _ _ _ _ _ _ _ _ lX8_201 (hU S hs hsl hlv _ _ _ he) ⟨by decide, rfl⟩ (cx_8o) rfl rfl (Nat.le_of_ble_eq_true rfl) (by omega) (by decide) (by omega) (by omega) dX8_readSum_1 ?_
  rintro r0 P0 s0 ⟨F0, Fo0, st0, rfl, rfl, rfl, hE0, hX0⟩
  dsimp only [Option.toList, List.cons_append, List.nil_append]
  refine hB bX8_readSum_4 _ _ _ _ _ _ _ kX8_readSum_4 ?_
  dsimp only [bX8_readSum_4, kx_wp, kx_step, kx_lI, kx_lL, kx_lA, kx_gl, kx_pI, kx_pL, kx_pR, kx_pA, kx_pV, kx_s1, kx_s2, kx_sl, kx_pre, kx_c2, kx_pl, kx_cmp, kx_oF, kx_eqN, kx_nil, kx_c1, kx_ft, kx_aI, kx_aL, kx_aR, kx_ln, Nat.reduceAdd, Option.toList, List.cons_append, List.nil_append, cf8_0, cf8_2, cf8_9, cf9_16]
  repeat (simp only [cx_8w0 hw, cx_8o, cx_83 hw, cx_84 hw, hQ, hs, pk_us, pk_un, ne_eq, Nat.reduceEqDiff, not_false_eq_true, hE.2.1, cx_8n (show ¬ (67:Nat) = 68 by decide), cx_f67 hw, hT, nI_clamp (show ck_sk T n S1.1 < 2 ^ 31 by omega), nI_1, ks_eq, ks_ss]; try dsimp only [kx_wp, kx_step, kx_lI, kx_lL, kx_lA, kx_gl, kx_pI, kx_pL, kx_pR, kx_pA, kx_pV, kx_s1, kx_s2, kx_sl, kx_pre, kx_c2, kx_pl, kx_cmp, kx_oF, kx_eqN, kx_nil, kx_c1, kx_ft, kx_aI, kx_aL, kx_aR, kx_ln, Nat.reduceAdd, Option.toList, List.cons_append, List.nil_append, cf8_0, cf8_2, cf8_9, cf9_16])
  repeat' apply And.intro
  all_goals try (first | with_reducible assumption | (with_reducible refine ck_nzI ?_; simp; done) | (with_reducible refine ck_nzL ?_; simp; done) | (with_reducible refine vp_in_nI ?_ ?_ <;> first | omega | decide) | (with_reducible refine Nat.le_of_ble_eq_true ?_; rfl) | omega | exact Or.inl trivial | exact Or.inr trivial | exact Or.inl rfl | exact Or.inr rfl)
  exact loop7 (n - (U S).1) (U S) F0 Fo0 st0 0 _ hE0 hX0 (ck_sl_0 hUS.1) (ck_lv_g hUS hlv) (fun _ => Nat.le_refl _) (by have := hUS.1.1; omega) rfl


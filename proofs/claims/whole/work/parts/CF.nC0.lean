def bX10_passMinute_0 : List kx_O := [(.aload_n 0, 0, 0, 0, .null), (.getfield 12, 10, 0, 0, .null), (.getfield 129, 0, 0, 0, .null), (.istore_n 1, 1, 0, 0, .null), (.iconst 0, 0, 0, 0, .int 0), (.istore_n 2, 2, 0, 0, .null)]
theorem kX10_passMinute_0 : kx_oks kxL_X10 false cX10_passMinute 0 bX10_passMinute_0 = true := by decide +kernel
def bX10_passMinute_10 : List kx_O := [(.iload_n 2, 2, 0, 0, .null), (.aload_n 0, 0, 0, 0, .null), (.getfield 44, 10, 7, 0, .null), (.if_icmp .ge 75, 90, 0, 0, .null)]
theorem kX10_passMinute_10 : kx_oks kxL_X10 false cX10_passMinute 10 bX10_passMinute_10 = true := by decide +kernel
def bX10_passMinute_18 : List kx_O := [(.iload_n 2, 2, 0, 0, .null), (.aload_n 0, 0, 0, 0, .null), (.getfield 40, 10, 6, 0, .null), (.arraylength, 0, 0, 0, .null), (.if_icmp .ge 66, 90, 0, 0, .null)]
theorem kX10_passMinute_18 : kx_oks kxL_X10 false cX10_passMinute 18 bX10_passMinute_18 = true := by decide +kernel
def bX10_passMinute_27 : List kx_O := [(.aload_n 0, 0, 0, 0, .null), (.getfield 40, 10, 6, 0, .null), (.iload_n 2, 2, 0, 0, .null), (.aaload, 0, 0, 0, .null), (.astore_n 3, 3, 0, 0, .null), (.aload_n 3, 3, 0, 0, .null), (.ifnull 49, 84, 0, 0, .null)]
theorem kX10_passMinute_27 : kx_oks kxL_X10 false cX10_passMinute 27 bX10_passMinute_27 = true := by decide +kernel
def bX10_passMinute_38 : List kx_O := [(.aload_n 3, 3, 0, 0, .null), (.iload_n 1, 1, 0, 0, .null)]
theorem kX10_passMinute_38 : kx_oks kxL_X10 false cX10_passMinute 38 bX10_passMinute_38 = true := by decide +kernel
def bX10_passMinute_43 : List kx_O := [(.aload_n 3, 3, 0, 0, .null), (.aload_n 0, 0, 0, 0, .null), (.getfield 12, 10, 0, 0, .null), (.iload_n 1, 1, 0, 0, .null)]
theorem kX10_passMinute_43 : kx_oks kxL_X10 false cX10_passMinute 43 bX10_passMinute_43 = true := by decide +kernel
def bX10_passMinute_52 : List kx_O := [(.aload_n 3, 3, 0, 0, .null)]
theorem kX10_passMinute_52 : kx_oks kxL_X10 false cX10_passMinute 52 bX10_passMinute_52 = true := by decide +kernel
def bX10_passMinute_56 : List kx_O := [(.ifCond .le 28, 84, 0, 0, .null)]
theorem kX10_passMinute_56 : kx_oks kxL_X10 false cX10_passMinute 56 bX10_passMinute_56 = true := by decide +kernel
def bX10_passMinute_59 : List kx_O := [(.aload_n 0, 0, 0, 0, .null), (.getfield 57, 10, 9, 0, .null), (.iload_n 2, 2, 0, 0, .null), (.bipush 60, 0, 0, 0, .int 60), (.iload_n 1, 1, 0, 0, .null), (.imul, 0, 0, 0, .null), (.aload_n 3, 3, 0, 0, .null), (.getfield 372, 1, 12, 0, .null), (.iadd, 0, 0, 0, .null), (.aload_n 3, 3, 0, 0, .null), (.getfield 375, 1, 13, 0, .null), (.aload_n 3, 3, 0, 0, .null), (.getfield 378, 1, 14, 0, .null)]
theorem kX10_passMinute_59 : kx_oks kxL_X10 false cX10_passMinute 59 bX10_passMinute_59 = true := by decide +kernel
def bX10_passMinute_84 : List kx_O := [(.iinc 2 1, 2, 0, 0, .int 1), (.goto (-77), 10, 0, 0, .null)]
theorem kX10_passMinute_84 : kx_oks kxL_X10 false cX10_passMinute 84 bX10_passMinute_84 = true := by decide +kernel
def bX10_passMinute_90 : List kx_O := [(.aload_n 0, 0, 0, 0, .null), (.getfield 12, 10, 0, 0, .null), (.iload_n 1, 1, 0, 0, .null), (.iconst 1, 0, 0, 0, .int 1), (.iadd, 0, 0, 0, .null), (.putfield 129, 0, 0, 0, .null), (.return_, 0, 0, 0, .null)]
theorem kX10_passMinute_90 : kx_oks kxL_X10 false cX10_passMinute 90 bX10_passMinute_90 = true := by decide +kernel
theorem dX10_passMinute_40 : decode cX10_passMinute 40 = .ok (.invokevirtual 369, 3) := by decide +kernel
theorem dX10_passMinute_49 : decode cX10_passMinute 49 = .ok (.invokevirtual 330, 3) := by decide +kernel
theorem dX10_passMinute_53 : decode cX10_passMinute 53 = .ok (.invokevirtual 334, 3) := by decide +kernel
theorem dX10_passMinute_81 : decode cX10_passMinute 81 = .ok (.invokevirtual 381, 3) := by decide +kernel
set_option maxRecDepth 100000 in
set_option maxHeartbeats 4000000 in
theorem ct_X10_passMinute (l : Launch) (G : kx_G) {P : kx_P} {sz : Nat} {M : Nat → Int32} {A : Nat → Nat → Int32} {L : Nat → Nat → Int64} {cl mi sd se : Nat} {bl : Nat → Nat} (hst : cR_st P M A cl se bl) (hdy : cR_dy P A L cl se sz bl (fun _ => mi)) (hm : cR_m M A L cl mi sd) (hmi : mi < 100000)  : kx_Mn l G sX10_passMinute 8 0 0 [.ref 64] P sz (fun r P2 s2 => r = none ∧ s2 = sz ∧ cR_af P P2 (ck_mn (M, A, L) cl) cl (mi + 1) se sz bl) := by
  have hcl : cl ≤ 8 := hm.2.2.1
  have hL0 : cR_L P P (ck_gs (M, ck_mgA (M, A, L) cl, L) 0) cl mi se sz bl 0 := cR_L_0 hst hdy hm hmi
  have h21 : ∀ k, (ck_gs (M, ck_mgA (M, A, L) cl, L) k).1 21 = nI cl := fun k => (ck_gs_M (by decide) (by decide) (by decide) (by decide) (by decide) k).trans hm.2.1
  have hend := fun P2 => cR_L_end (P0 := P) (P := P2) (se := se) (sz := sz) (bl := bl) hm hmi
  have hgo : ∀ k, ck_go (ck_gs (M, ck_mgA (M, A, L) cl, L) k) k = ck_gs (M, ck_mgA (M, A, L) cl, L) (k + 1) := fun k => rfl
  generalize ck_gs (M, ck_mgA (M, A, L) cl, L) = GS at h21 hend hgo hL0
  refine kx_mkn kx_tab kxLok_X10 (ini := false) [some (.ref 64), none, none, none] ⟨by decide, rfl, by decide, by decide⟩ (fun _ _ _ h => h.1) rfl rfl (fun g hB hC hN => ?_)
  have loop10 : ∀ (n9 : Nat) (k : Nat) (P2 : kx_P) (a : Option Value), k + n9 = cl → cR_L P P2 (GS k) cl mi se sz bl k → g 10 [some (.ref 64), some (.int (nI mi)), some (.int (nI k)), a] [] P2 sz 0 0 := by
    intro n9
    induction n9 with
    | zero =>
      intro k P2 a hk hL
      obtain rfl : k = cl := by omega
      have hL9 := hL
      obtain ⟨⟨⟨K, h64, -, -, hK7, -, -⟩, -, -, -, -, h69, -⟩, -⟩ := hL9
      rw [h21] at hK7
      obtain ⟨Al, h65, hfin⟩ := hend P2 hL
      have hfin := hfin _ rfl
      refine hB bX10_passMinute_10 _ _ _ _ _ _ _ kX10_passMinute_10 ?_
      dsimp only [bX10_passMinute_10, kx_wp, kx_step, kx_lI, kx_lL, kx_lA, kx_gl, kx_pI, kx_pL, kx_pR, kx_pA, kx_pV, kx_s1, kx_s2, kx_sl, kx_pre, kx_c2, kx_pl, kx_cmp, kx_oF, kx_eqN, kx_nil, kx_c1, kx_ft, kx_aI, kx_aL, kx_aR, kx_ln, Nat.reduceAdd, Option.toList, List.cons_append, List.nil_append, cf10_0, cf0_0, cf10_7, cf10_6, cf10_9, cf1_12, cf1_13, cf1_14]
      repeat (simp only [h64, h69, hK7, h65, nI_1, cp0_0, ks_eq, ks_ss]; try dsimp only [kx_wp, kx_step, kx_lI, kx_lL, kx_lA, kx_gl, kx_pI, kx_pL, kx_pR, kx_pA, kx_pV, kx_s1, kx_s2, kx_sl, kx_pre, kx_c2, kx_pl, kx_cmp, kx_oF, kx_eqN, kx_nil, kx_c1, kx_ft, kx_aI, kx_aL, kx_aR, kx_ln, Nat.reduceAdd, Option.toList, List.cons_append, List.nil_append, cf10_0, cf0_0, cf10_7, cf10_6, cf10_9, cf1_12, cf1_13, cf1_14])
      repeat' apply And.intro
      all_goals try (first | with_reducible assumption | (with_reducible refine ck_nzI ?_; simp; done) | (with_reducible refine ck_nzL ?_; simp; done) | (with_reducible refine vp_in_nI ?_ ?_ <;> first | omega | decide) | (with_reducible refine Nat.le_of_ble_eq_true ?_; rfl) | omega | exact Or.inl trivial | exact Or.inr trivial | exact Or.inl rfl | exact Or.inr rfl | exact vp_in_nI (by omega) (by decide))
      · intro zc15
        with_reducible first | have ze15 := Int32.not_lt.mpr zc15 | have ze15 := zc15
        refine hB bX10_passMinute_90 _ _ _ _ _ _ _ kX10_passMinute_90 ?_
        dsimp only [bX10_passMinute_90, kx_wp, kx_step, kx_lI, kx_lL, kx_lA, kx_gl, kx_pI, kx_pL, kx_pR, kx_pA, kx_pV, kx_s1, kx_s2, kx_sl, kx_pre, kx_c2, kx_pl, kx_cmp, kx_oF, kx_eqN, kx_nil, kx_c1, kx_ft, kx_aI, kx_aL, kx_aR, kx_ln, Nat.reduceAdd, Option.toList, List.cons_append, List.nil_append, cf10_0, cf0_0, cf10_7, cf10_6, cf10_9, cf1_12, cf1_13, cf1_14]
        repeat (simp only [h64, h69, hK7, h65, nI_1, cp0_0, ks_eq, ks_ss]; try dsimp only [kx_wp, kx_step, kx_lI, kx_lL, kx_lA, kx_gl, kx_pI, kx_pL, kx_pR, kx_pA, kx_pV, kx_s1, kx_s2, kx_sl, kx_pre, kx_c2, kx_pl, kx_cmp, kx_oF, kx_eqN, kx_nil, kx_c1, kx_ft, kx_aI, kx_aL, kx_aR, kx_ln, Nat.reduceAdd, Option.toList, List.cons_append, List.nil_append, cf10_0, cf0_0, cf10_7, cf10_6, cf10_9, cf1_12, cf1_13, cf1_14])
        all_goals (repeat' apply And.intro)
        all_goals ((try clear hB hC hN); first | exact True.intro | rfl | exact hfin | decide)
      · intro zc15
        first | exact absurd rfl zc15 | exact absurd zc15 (by decide) | exact absurd (by decide) zc15 | (exfalso; first | exact absurd ((nI_leI (a := cl) (b := k) (by omega) (by omega)).mp zc15) (by omega) | exact absurd ((nI_leI (a := 8) (b := k) (by omega) (by omega)).mp zc24) (by omega) | exact absurd ((nI_leI (a := cl) (b := k) (by omega) (by omega)).mpr (by omega)) zc15) | (exfalso; simp_all; done)
    | succ n9 ih =>
      intro k P2 a hk hL
      · have hk2 : k < cl := by omega
        have hL9 := hL
        obtain ⟨⟨⟨K, h64, -, -, hK7, -, -⟩, ⟨Al, h65, al0, -, -⟩, -, -, -, h69, -⟩, -, -, hM1, -⟩ := hL9
        rw [h21] at hK7
        rw [hM1] at al0
        have e8 : (if k < cl then some (bl (8 + k)) else none) = some (bl (8 + k)) := if_pos hk2
        have e9 : va_rf (some (bl (8 + k))) = .ref (bl (8 + k)) := rfl
        have c1 : (nI k).toNatClampNeg = k := nI_clamp (by omega)
        have hB9 := hL.2.1.1
        have b1 := hB9.w hcl hk2
        have b2 := hB9.c hcl hk2
        have b3 := hB9.wc hcl hk2 hk2
        obtain ⟨V, T, Q, Fo, St, S1, C, Kp, Al9, lf, a9, mo, H, hf, ea, ha, h6, hlf, hmo, hmo2, al1, h5, hq, hkq, hstep⟩ := cR_L_s hL hk2 hcl hmi
        obtain ⟨S2, d2, C2, he⟩ : ∃ S2 d2 C2, cx_gm V T Q (fun j => (GS k).2.1 106 (400 * k + j)) (fun j => (GS k).2.1 107 (400 * k + j)) S1 C ((GS k).2.1 105 k).toNatClampNeg ((GS k).1 3) lf a9 mo = (S2, d2, C2) := ⟨_, _, _, rfl⟩
        obtain ⟨hle, hgt⟩ := hstep S2 d2 C2 he _ rfl
        rw [hgo] at hle hgt
        have hk9 : kx_M l G sX1_keepHour 2 0 0 [.ref (bl (8 + k)), .int (nI mi)] P2 sz none (kx_set P2 (bl (8 + k) + 1) (kI 0 1667 (if mi % 60 = 0 then upd Kp (mi / 60) (((GS k).2.2 116 k / 1000).toInt32) else Kp))) sz := by
          by_cases h60 : mi % 60 = 0
          · rw [if_pos h60]; exact ct_X1_keepHour_t l G hq hkq (by omega) hmi h60
          · rw [if_neg h60, ks_id hkq]; exact ct_X1_keepHour_o l G hq hkq (by omega) hmi h60
        obtain ⟨P3, hP3⟩ : ∃ P3, P3 = kx_set P2 (bl (8 + k) + 1) (kI 0 1667 (if mi % 60 = 0 then upd Kp (mi / 60) (((GS k).2.2 116 k / 1000).toInt32) else Kp)) := ⟨_, rfl⟩
        rw [← hP3] at hk9 hle hgt
        have n3 : ∀ n, ¬ n = bl (8 + k) + 1 → P3 n = P2 n := fun n hn => by rw [hP3, ks_ne hn]
        obtain ⟨H1, H2, H3, H4, H5, H6, H7, H8, H9, H10, H11, H12, H13⟩ := H
        have H' : cx_R P3 (bl (8 + k)) (bl k) V T Q Fo St Al9 ((GS k).2.1 94) := ⟨H1, H2, H3, H4, H5, (n3 _ (by omega)).trans H6, (n3 _ (by omega)).trans H7, (n3 _ (by omega)).trans H8, (n3 _ (by omega)).trans H9, (n3 _ (by omega)).trans H10, (n3 _ (by omega)).trans H11, (n3 _ (by omega)).trans H12, (n3 _ (by omega)).trans H13⟩
        have hq3 := (n3 _ (by omega)).trans hq
        have h53 := (n3 _ (by omega)).trans h5
        have hcW : cW P3 (bl (8 + k)) (bl k) S1 ((GS k).2.2 116 k) (.ref (bl (8 + k) + 1)) C = P3 := by unfold cW; rw [ks_id h53, ks_id hq3]
        have hg9 := ct_X1_goMinute l G (sz := sz) H' (S := S1) (C := C) (d := (GS k).2.2 116 k) (h := .ref (bl (8 + k) + 1)) hf (mi := mi) (by omega) ea ha h6 hlf hmo hmo2
        rw [hcW, al1, he] at hg9
        dsimp only at hg9
        obtain ⟨P4, hP4⟩ : ∃ P4, P4 = cW P3 (bl (8 + k)) (bl k) S2 d2 (.ref (bl (8 + k) + 1)) C2 := ⟨_, rfl⟩
        rw [← hP4] at hg9 hle hgt
        have hq4 : P4 (bl (8 + k)) = kO 1 (kf (cr1 (.ref (bl k)) d2 (.ref (bl (8 + k) + 1))) C2) := by rw [hP4]; exact cW_c
        have n4 : ∀ n, n < 144 → P4 n = P2 n := fun n hn => by rw [hP4, cW_o (by omega) (by omega)]; exact n3 n (by omega)
        have k64 : P3 64 = kO 10 (kf (cr10 (cR_sv (bl 16))) K) := (n3 64 (by omega)).trans h64
        have l64 : P4 64 = kO 10 (kf (cr10 (cR_sv (bl 16))) K) := (n4 64 (by omega)).trans h64
        clear hP3 hP4 hstep
        refine hB bX10_passMinute_10 _ _ _ _ _ _ _ kX10_passMinute_10 ?_
        dsimp only [bX10_passMinute_10, kx_wp, kx_step, kx_lI, kx_lL, kx_lA, kx_gl, kx_pI, kx_pL, kx_pR, kx_pA, kx_pV, kx_s1, kx_s2, kx_sl, kx_pre, kx_c2, kx_pl, kx_cmp, kx_oF, kx_eqN, kx_nil, kx_c1, kx_ft, kx_aI, kx_aL, kx_aR, kx_ln, Nat.reduceAdd, Option.toList, List.cons_append, List.nil_append, cf10_0, cf0_0, cf10_7, cf10_6, cf10_9, cf1_12, cf1_13, cf1_14]
        repeat (simp only [h64, h69, hK7, h65, nI_1, cp0_0, ks_eq, ks_ss, e8, e9, c1]; try dsimp only [kx_wp, kx_step, kx_lI, kx_lL, kx_lA, kx_gl, kx_pI, kx_pL, kx_pR, kx_pA, kx_pV, kx_s1, kx_s2, kx_sl, kx_pre, kx_c2, kx_pl, kx_cmp, kx_oF, kx_eqN, kx_nil, kx_c1, kx_ft, kx_aI, kx_aL, kx_aR, kx_ln, Nat.reduceAdd, Option.toList, List.cons_append, List.nil_append, cf10_0, cf0_0, cf10_7, cf10_6, cf10_9, cf1_12, cf1_13, cf1_14])
        repeat' apply And.intro
        all_goals try (first | with_reducible assumption | (with_reducible refine ck_nzI ?_; simp; done) | (with_reducible refine ck_nzL ?_; simp; done) | (with_reducible refine vp_in_nI ?_ ?_ <;> first | omega | decide) | (with_reducible refine Nat.le_of_ble_eq_true ?_; rfl) | omega | exact Or.inl trivial | exact Or.inr trivial | exact Or.inl rfl | exact Or.inr rfl | exact vp_in_nI (by omega) (by decide))
        · intro zc15
          first | exact absurd rfl zc15 | exact absurd zc15 (by decide) | exact absurd (by decide) zc15 | (exfalso; first | exact absurd ((nI_leI (a := cl) (b := k) (by omega) (by omega)).mp zc15) (by omega) | exact absurd ((nI_leI (a := 8) (b := k) (by omega) (by omega)).mp zc24) (by omega) | exact absurd ((nI_leI (a := cl) (b := k) (by omega) (by omega)).mpr (by omega)) zc15) | (exfalso; simp_all; done)
        · intro zc15
          with_reducible first | have ze15 := Int32.not_le.mp zc15 | have ze15 := zc15
          refine hB bX10_passMinute_18 _ _ _ _ _ _ _ kX10_passMinute_18 ?_
          dsimp only [bX10_passMinute_18, kx_wp, kx_step, kx_lI, kx_lL, kx_lA, kx_gl, kx_pI, kx_pL, kx_pR, kx_pA, kx_pV, kx_s1, kx_s2, kx_sl, kx_pre, kx_c2, kx_pl, kx_cmp, kx_oF, kx_eqN, kx_nil, kx_c1, kx_ft, kx_aI, kx_aL, kx_aR, kx_ln, Nat.reduceAdd, Option.toList, List.cons_append, List.nil_append, cf10_0, cf0_0, cf10_7, cf10_6, cf10_9, cf1_12, cf1_13, cf1_14]
          repeat (simp only [h64, h69, hK7, h65, nI_1, cp0_0, ks_eq, ks_ss, e8, e9, c1]; try dsimp only [kx_wp, kx_step, kx_lI, kx_lL, kx_lA, kx_gl, kx_pI, kx_pL, kx_pR, kx_pA, kx_pV, kx_s1, kx_s2, kx_sl, kx_pre, kx_c2, kx_pl, kx_cmp, kx_oF, kx_eqN, kx_nil, kx_c1, kx_ft, kx_aI, kx_aL, kx_aR, kx_ln, Nat.reduceAdd, Option.toList, List.cons_append, List.nil_append, cf10_0, cf0_0, cf10_7, cf10_6, cf10_9, cf1_12, cf1_13, cf1_14])
          repeat' apply And.intro
          all_goals try (first | with_reducible assumption | (with_reducible refine ck_nzI ?_; simp; done) | (with_reducible refine ck_nzL ?_; simp; done) | (with_reducible refine vp_in_nI ?_ ?_ <;> first | omega | decide) | (with_reducible refine Nat.le_of_ble_eq_true ?_; rfl) | omega | exact Or.inl trivial | exact Or.inr trivial | exact Or.inl rfl | exact Or.inr rfl | exact vp_in_nI (by omega) (by decide))
          · intro zc24
            first | exact absurd rfl zc24 | exact absurd zc24 (by decide) | exact absurd (by decide) zc24 | (exfalso; first | exact absurd ((nI_leI (a := cl) (b := k) (by omega) (by omega)).mp zc15) (by omega) | exact absurd ((nI_leI (a := 8) (b := k) (by omega) (by omega)).mp zc24) (by omega) | exact absurd ((nI_leI (a := cl) (b := k) (by omega) (by omega)).mpr (by omega)) zc15) | (exfalso; simp_all; done)
          · intro zc24
            with_reducible first | have ze24 := Int32.not_le.mp zc24 | have ze24 := zc24
            refine hB bX10_passMinute_27 _ _ _ _ _ _ _ kX10_passMinute_27 ?_
            dsimp only [bX10_passMinute_27, kx_wp, kx_step, kx_lI, kx_lL, kx_lA, kx_gl, kx_pI, kx_pL, kx_pR, kx_pA, kx_pV, kx_s1, kx_s2, kx_sl, kx_pre, kx_c2, kx_pl, kx_cmp, kx_oF, kx_eqN, kx_nil, kx_c1, kx_ft, kx_aI, kx_aL, kx_aR, kx_ln, Nat.reduceAdd, Option.toList, List.cons_append, List.nil_append, cf10_0, cf0_0, cf10_7, cf10_6, cf10_9, cf1_12, cf1_13, cf1_14]
            repeat (simp only [h64, h69, hK7, h65, nI_1, cp0_0, ks_eq, ks_ss, e8, e9, c1]; try dsimp only [kx_wp, kx_step, kx_lI, kx_lL, kx_lA, kx_gl, kx_pI, kx_pL, kx_pR, kx_pA, kx_pV, kx_s1, kx_s2, kx_sl, kx_pre, kx_c2, kx_pl, kx_cmp, kx_oF, kx_eqN, kx_nil, kx_c1, kx_ft, kx_aI, kx_aL, kx_aR, kx_ln, Nat.reduceAdd, Option.toList, List.cons_append, List.nil_append, cf10_0, cf0_0, cf10_7, cf10_6, cf10_9, cf1_12, cf1_13, cf1_14])
            repeat' apply And.intro
            all_goals try (first | with_reducible assumption | (with_reducible refine ck_nzI ?_; simp; done) | (with_reducible refine ck_nzL ?_; simp; done) | (with_reducible refine vp_in_nI ?_ ?_ <;> first | omega | decide) | (with_reducible refine Nat.le_of_ble_eq_true ?_; rfl) | omega | exact Or.inl trivial | exact Or.inr trivial | exact Or.inl rfl | exact Or.inr rfl | exact vp_in_nI (by omega) (by decide))
            refine hB bX10_passMinute_38 _ _ _ _ _ _ _ kX10_passMinute_38 ?_
            dsimp only [bX10_passMinute_38, kx_wp, kx_step, kx_lI, kx_lL, kx_lA, kx_gl, kx_pI, kx_pL, kx_pR, kx_pA, kx_pV, kx_s1, kx_s2, kx_sl, kx_pre, kx_c2, kx_pl, kx_cmp, kx_oF, kx_eqN, kx_nil, kx_c1, kx_ft, kx_aI, kx_aL, kx_aR, kx_ln, Nat.reduceAdd, Option.toList, List.cons_append, List.nil_append, cf10_0, cf0_0, cf10_7, cf10_6, cf10_9, cf1_12, cf1_13, cf1_14]
            repeat (simp only [h64, h69, hK7, h65, nI_1, cp0_0, ks_eq, ks_ss, e8, e9, c1]; try dsimp only [kx_wp, kx_step, kx_lI, kx_lL, kx_lA, kx_gl, kx_pI, kx_pL, kx_pR, kx_pA, kx_pV, kx_s1, kx_s2, kx_sl, kx_pre, kx_c2, kx_pl, kx_cmp, kx_oF, kx_eqN, kx_nil, kx_c1, kx_ft, kx_aI, kx_aL, kx_aR, kx_ln, Nat.reduceAdd, Option.toList, List.cons_append, List.nil_append, cf10_0, cf0_0, cf10_7, cf10_6, cf10_9, cf1_12, cf1_13, cf1_14])
            repeat' apply And.intro
            all_goals try (first | with_reducible assumption | (with_reducible refine ck_nzI ?_; simp; done) | (with_reducible refine ck_nzL ?_; simp; done) | (with_reducible refine vp_in_nI ?_ ?_ <;> first | omega | decide) | (with_reducible refine Nat.le_of_ble_eq_true ?_; rfl) | omega | exact Or.inl trivial | exact Or.inr trivial | exact Or.inl rfl | exact Or.inr rfl | exact vp_in_nI (by omega) (by decide))
            refine hC.1 369 _ _ _ _ _ _ _ 1 _ _ _ _ _ _ _ _ _ _ _ _ lX10_369 (hk9) ⟨by decide, rfl⟩ (hq) rfl rfl (Nat.le_of_ble_eq_true rfl) (by first | decide | omega) (by decide) (by omega) (by omega) dX10_passMinute_40 ?_
            refine hB bX10_passMinute_43 _ _ _ _ _ _ _ kX10_passMinute_43 ?_
            dsimp only [bX10_passMinute_43, kx_wp, kx_step, kx_lI, kx_lL, kx_lA, kx_gl, kx_pI, kx_pL, kx_pR, kx_pA, kx_pV, kx_s1, kx_s2, kx_sl, kx_pre, kx_c2, kx_pl, kx_cmp, kx_oF, kx_eqN, kx_nil, kx_c1, kx_ft, kx_aI, kx_aL, kx_aR, kx_ln, Nat.reduceAdd, Option.toList, List.cons_append, List.nil_append, cf10_0, cf0_0, cf10_7, cf10_6, cf10_9, cf1_12, cf1_13, cf1_14]
            repeat (simp only [h64, h69, hK7, h65, nI_1, cp0_0, ks_eq, ks_ss, e8, e9, c1, k64]; try dsimp only [kx_wp, kx_step, kx_lI, kx_lL, kx_lA, kx_gl, kx_pI, kx_pL, kx_pR, kx_pA, kx_pV, kx_s1, kx_s2, kx_sl, kx_pre, kx_c2, kx_pl, kx_cmp, kx_oF, kx_eqN, kx_nil, kx_c1, kx_ft, kx_aI, kx_aL, kx_aR, kx_ln, Nat.reduceAdd, Option.toList, List.cons_append, List.nil_append, cf10_0, cf0_0, cf10_7, cf10_6, cf10_9, cf1_12, cf1_13, cf1_14])
            repeat' apply And.intro
            all_goals try (first | with_reducible assumption | (with_reducible refine ck_nzI ?_; simp; done) | (with_reducible refine ck_nzL ?_; simp; done) | (with_reducible refine vp_in_nI ?_ ?_ <;> first | omega | decide) | (with_reducible refine Nat.le_of_ble_eq_true ?_; rfl) | omega | exact Or.inl trivial | exact Or.inr trivial | exact Or.inl rfl | exact Or.inr rfl | exact vp_in_nI (by omega) (by decide))
            refine hC.1 330 _ _ _ _ _ _ _ 1 _ _ _ _ _ _ _ _ _ _ _ _ lX10_330 (hg9) ⟨by decide, rfl⟩ (hq3) rfl rfl (Nat.le_of_ble_eq_true rfl) (by first | decide | omega) (by decide) (by omega) (by omega) dX10_passMinute_49 ?_
            refine hB bX10_passMinute_52 _ _ _ _ _ _ _ kX10_passMinute_52 ?_
            dsimp only [bX10_passMinute_52, kx_wp, kx_step, kx_lI, kx_lL, kx_lA, kx_gl, kx_pI, kx_pL, kx_pR, kx_pA, kx_pV, kx_s1, kx_s2, kx_sl, kx_pre, kx_c2, kx_pl, kx_cmp, kx_oF, kx_eqN, kx_nil, kx_c1, kx_ft, kx_aI, kx_aL, kx_aR, kx_ln, Nat.reduceAdd, Option.toList, List.cons_append, List.nil_append, cf10_0, cf0_0, cf10_7, cf10_6, cf10_9, cf1_12, cf1_13, cf1_14]
            repeat (simp only [h64, h69, hK7, h65, nI_1, cp0_0, ks_eq, ks_ss, e8, e9, c1, hq4, l64]; try dsimp only [kx_wp, kx_step, kx_lI, kx_lL, kx_lA, kx_gl, kx_pI, kx_pL, kx_pR, kx_pA, kx_pV, kx_s1, kx_s2, kx_sl, kx_pre, kx_c2, kx_pl, kx_cmp, kx_oF, kx_eqN, kx_nil, kx_c1, kx_ft, kx_aI, kx_aL, kx_aR, kx_ln, Nat.reduceAdd, Option.toList, List.cons_append, List.nil_append, cf10_0, cf0_0, cf10_7, cf10_6, cf10_9, cf1_12, cf1_13, cf1_14])
            repeat' apply And.intro
            all_goals try (first | with_reducible assumption | (with_reducible refine ck_nzI ?_; simp; done) | (with_reducible refine ck_nzL ?_; simp; done) | (with_reducible refine vp_in_nI ?_ ?_ <;> first | omega | decide) | (with_reducible refine Nat.le_of_ble_eq_true ?_; rfl) | omega | exact Or.inl trivial | exact Or.inr trivial | exact Or.inl rfl | exact Or.inr rfl | exact vp_in_nI (by omega) (by decide))
            refine hC.1 334 _ _ _ _ _ _ _ 1 _ _ _ _ _ _ _ _ _ _ _ _ lX10_334 (ct_X1_heardStrokes l G hq4) ⟨by decide, rfl⟩ (hq4) rfl rfl (Nat.le_of_ble_eq_true rfl) (by first | decide | omega) (by decide) (by omega) (by omega) dX10_passMinute_53 ?_
            refine hB bX10_passMinute_56 _ _ _ _ _ _ _ kX10_passMinute_56 ?_
            dsimp only [bX10_passMinute_56, kx_wp, kx_step, kx_lI, kx_lL, kx_lA, kx_gl, kx_pI, kx_pL, kx_pR, kx_pA, kx_pV, kx_s1, kx_s2, kx_sl, kx_pre, kx_c2, kx_pl, kx_cmp, kx_oF, kx_eqN, kx_nil, kx_c1, kx_ft, kx_aI, kx_aL, kx_aR, kx_ln, Nat.reduceAdd, Option.toList, List.cons_append, List.nil_append, cf10_0, cf0_0, cf10_7, cf10_6, cf10_9, cf1_12, cf1_13, cf1_14]
            repeat (simp only [h64, h69, hK7, h65, nI_1, cp0_0, ks_eq, ks_ss, e8, e9, c1, hq4, l64]; try dsimp only [kx_wp, kx_step, kx_lI, kx_lL, kx_lA, kx_gl, kx_pI, kx_pL, kx_pR, kx_pA, kx_pV, kx_s1, kx_s2, kx_sl, kx_pre, kx_c2, kx_pl, kx_cmp, kx_oF, kx_eqN, kx_nil, kx_c1, kx_ft, kx_aI, kx_aL, kx_aR, kx_ln, Nat.reduceAdd, Option.toList, List.cons_append, List.nil_append, cf10_0, cf0_0, cf10_7, cf10_6, cf10_9, cf1_12, cf1_13, cf1_14])
            repeat' apply And.intro
            all_goals try (first | with_reducible assumption | (with_reducible refine ck_nzI ?_; simp; done) | (with_reducible refine ck_nzL ?_; simp; done) | (with_reducible refine vp_in_nI ?_ ?_ <;> first | omega | decide) | (with_reducible refine Nat.le_of_ble_eq_true ?_; rfl) | omega | exact Or.inl trivial | exact Or.inr trivial | exact Or.inl rfl | exact Or.inr rfl | exact vp_in_nI (by omega) (by decide))
            · intro zc56
              with_reducible first | have ze56 := Int32.not_lt.mpr zc56 | have ze56 := zc56
              refine hB bX10_passMinute_84 _ _ _ _ _ _ _ kX10_passMinute_84 ?_
              dsimp only [bX10_passMinute_84, kx_wp, kx_step, kx_lI, kx_lL, kx_lA, kx_gl, kx_pI, kx_pL, kx_pR, kx_pA, kx_pV, kx_s1, kx_s2, kx_sl, kx_pre, kx_c2, kx_pl, kx_cmp, kx_oF, kx_eqN, kx_nil, kx_c1, kx_ft, kx_aI, kx_aL, kx_aR, kx_ln, Nat.reduceAdd, Option.toList, List.cons_append, List.nil_append, cf10_0, cf0_0, cf10_7, cf10_6, cf10_9, cf1_12, cf1_13, cf1_14]
              repeat (simp only [h64, h69, hK7, h65, nI_1, cp0_0, ks_eq, ks_ss, e8, e9, c1]; try dsimp only [kx_wp, kx_step, kx_lI, kx_lL, kx_lA, kx_gl, kx_pI, kx_pL, kx_pR, kx_pA, kx_pV, kx_s1, kx_s2, kx_sl, kx_pre, kx_c2, kx_pl, kx_cmp, kx_oF, kx_eqN, kx_nil, kx_c1, kx_ft, kx_aI, kx_aL, kx_aR, kx_ln, Nat.reduceAdd, Option.toList, List.cons_append, List.nil_append, cf10_0, cf0_0, cf10_7, cf10_6, cf10_9, cf1_12, cf1_13, cf1_14])
              repeat' apply And.intro
              all_goals try (first | with_reducible assumption | (with_reducible refine ck_nzI ?_; simp; done) | (with_reducible refine ck_nzL ?_; simp; done) | (with_reducible refine vp_in_nI ?_ ?_ <;> first | omega | decide) | (with_reducible refine Nat.le_of_ble_eq_true ?_; rfl) | omega | exact Or.inl trivial | exact Or.inr trivial | exact Or.inl rfl | exact Or.inr rfl | exact vp_in_nI (by omega) (by decide))
              first | exact ih (k + 1) _ _ (by omega) (hle zc56) | exact ih (k + 1) _ _ (by omega) hnext
            · intro zc56
              with_reducible first | have ze56 := Int32.not_le.mp zc56 | have ze56 := zc56
              refine hB bX10_passMinute_59 _ _ _ _ _ _ _ kX10_passMinute_59 ?_
              dsimp only [bX10_passMinute_59, kx_wp, kx_step, kx_lI, kx_lL, kx_lA, kx_gl, kx_pI, kx_pL, kx_pR, kx_pA, kx_pV, kx_s1, kx_s2, kx_sl, kx_pre, kx_c2, kx_pl, kx_cmp, kx_oF, kx_eqN, kx_nil, kx_c1, kx_ft, kx_aI, kx_aL, kx_aR, kx_ln, Nat.reduceAdd, Option.toList, List.cons_append, List.nil_append, cf10_0, cf0_0, cf10_7, cf10_6, cf10_9, cf1_12, cf1_13, cf1_14]
              repeat (simp only [h64, h69, hK7, h65, nI_1, cp0_0, ks_eq, ks_ss, e8, e9, c1, hq4, l64]; try dsimp only [kx_wp, kx_step, kx_lI, kx_lL, kx_lA, kx_gl, kx_pI, kx_pL, kx_pR, kx_pA, kx_pV, kx_s1, kx_s2, kx_sl, kx_pre, kx_c2, kx_pl, kx_cmp, kx_oF, kx_eqN, kx_nil, kx_c1, kx_ft, kx_aI, kx_aL, kx_aR, kx_ln, Nat.reduceAdd, Option.toList, List.cons_append, List.nil_append, cf10_0, cf0_0, cf10_7, cf10_6, cf10_9, cf1_12, cf1_13, cf1_14])
              repeat' apply And.intro
              all_goals try (first | with_reducible assumption | (with_reducible refine ck_nzI ?_; simp; done) | (with_reducible refine ck_nzL ?_; simp; done) | (with_reducible refine vp_in_nI ?_ ?_ <;> first | omega | decide) | (with_reducible refine Nat.le_of_ble_eq_true ?_; rfl) | omega | exact Or.inl trivial | exact Or.inr trivial | exact Or.inl rfl | exact Or.inr rfl | exact vp_in_nI (by omega) (by decide))
              obtain ⟨F, sd9, hO71, hF4, hsd9, hSR9, hnext⟩ := hgt zc56
              refine hC.1 381 _ _ _ _ _ _ _ 7 _ _ _ _ _ _ _ _ _ _ _ _ lX10_381 (ct_X7_add l G (X := F) (Y := F) hSR9 hF4 hsd9 hO71) ⟨by decide, rfl⟩ (hO71) rfl rfl (Nat.le_of_ble_eq_true rfl) (by first | decide | omega) (by decide) (by omega) (by omega) dX10_passMinute_81 ?_
              refine hB bX10_passMinute_84 _ _ _ _ _ _ _ kX10_passMinute_84 ?_
              dsimp only [bX10_passMinute_84, kx_wp, kx_step, kx_lI, kx_lL, kx_lA, kx_gl, kx_pI, kx_pL, kx_pR, kx_pA, kx_pV, kx_s1, kx_s2, kx_sl, kx_pre, kx_c2, kx_pl, kx_cmp, kx_oF, kx_eqN, kx_nil, kx_c1, kx_ft, kx_aI, kx_aL, kx_aR, kx_ln, Nat.reduceAdd, Option.toList, List.cons_append, List.nil_append, cf10_0, cf0_0, cf10_7, cf10_6, cf10_9, cf1_12, cf1_13, cf1_14]
              repeat (simp only [h64, h69, hK7, h65, nI_1, cp0_0, ks_eq, ks_ss, e8, e9, c1]; try dsimp only [kx_wp, kx_step, kx_lI, kx_lL, kx_lA, kx_gl, kx_pI, kx_pL, kx_pR, kx_pA, kx_pV, kx_s1, kx_s2, kx_sl, kx_pre, kx_c2, kx_pl, kx_cmp, kx_oF, kx_eqN, kx_nil, kx_c1, kx_ft, kx_aI, kx_aL, kx_aR, kx_ln, Nat.reduceAdd, Option.toList, List.cons_append, List.nil_append, cf10_0, cf0_0, cf10_7, cf10_6, cf10_9, cf1_12, cf1_13, cf1_14])
              repeat' apply And.intro
              all_goals try (first | with_reducible assumption | (with_reducible refine ck_nzI ?_; simp; done) | (with_reducible refine ck_nzL ?_; simp; done) | (with_reducible refine vp_in_nI ?_ ?_ <;> first | omega | decide) | (with_reducible refine Nat.le_of_ble_eq_true ?_; rfl) | omega | exact Or.inl trivial | exact Or.inr trivial | exact Or.inl rfl | exact Or.inr rfl | exact vp_in_nI (by omega) (by decide))
              first | exact ih (k + 1) _ _ (by omega) (hle zc56) | exact ih (k + 1) _ _ (by omega) hnext
  obtain ⟨⟨K, h64, -, -, hK7, -, -⟩, ⟨Al, h65, al0, -, -⟩, -, -, -, h69, -⟩ := id hst
  rw [hm.2.2.2.1] at al0
  refine hB bX10_passMinute_0 _ _ _ _ _ _ _ kX10_passMinute_0 ?_
  dsimp only [bX10_passMinute_0, kx_wp, kx_step, kx_lI, kx_lL, kx_lA, kx_gl, kx_pI, kx_pL, kx_pR, kx_pA, kx_pV, kx_s1, kx_s2, kx_sl, kx_pre, kx_c2, kx_pl, kx_cmp, kx_oF, kx_eqN, kx_nil, kx_c1, kx_ft, kx_aI, kx_aL, kx_aR, kx_ln, Nat.reduceAdd, Option.toList, List.cons_append, List.nil_append, cf10_0, cf0_0, cf10_7, cf10_6, cf10_9, cf1_12, cf1_13, cf1_14]
  repeat (simp only [h64, h69, hK7, h65, nI_1, cp0_0, ks_eq, ks_ss, al0]; try dsimp only [kx_wp, kx_step, kx_lI, kx_lL, kx_lA, kx_gl, kx_pI, kx_pL, kx_pR, kx_pA, kx_pV, kx_s1, kx_s2, kx_sl, kx_pre, kx_c2, kx_pl, kx_cmp, kx_oF, kx_eqN, kx_nil, kx_c1, kx_ft, kx_aI, kx_aL, kx_aR, kx_ln, Nat.reduceAdd, Option.toList, List.cons_append, List.nil_append, cf10_0, cf0_0, cf10_7, cf10_6, cf10_9, cf1_12, cf1_13, cf1_14])
  repeat' apply And.intro
  all_goals try (first | with_reducible assumption | (with_reducible refine ck_nzI ?_; simp; done) | (with_reducible refine ck_nzL ?_; simp; done) | (with_reducible refine vp_in_nI ?_ ?_ <;> first | omega | decide) | (with_reducible refine Nat.le_of_ble_eq_true ?_; rfl) | omega | exact Or.inl trivial | exact Or.inr trivial | exact Or.inl rfl | exact Or.inr rfl | exact vp_in_nI (by omega) (by decide))
  exact loop10 cl 0 P _ (by omega) hL0


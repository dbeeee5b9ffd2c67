/-- halving: fuel, within, beyond -/
def cx_hv (F : Nat → Int32) (v : Int32) : Nat → Int32 → Int32 → Int32
  | 0, _, b => b
  | n + 1, w, b => if b - w ≤ 1 then b else if cx_be F ((w + b) / 2) v = 0 then cx_hv F v n ((w + b) / 2) b else cx_hv F v n w ((w + b) / 2)
def cx_fb (F : Nat → Int32) (v : Int32) : Int32 :=
  if F 5 = 0 then -1 else if cx_be F (F 8) v = 0 then (if cx_be F 200000 v = 0 then -1 else cx_hv F v 20 (F 8) 200000) else F 8
def bX5_firstBeyond_0 : List kx_O := [(.aload_n 0, 0, 0, 0, .null), (.getfield 28, 5, 5, 0, .null), (.ifCond .eq 25, 29, 0, 0, .null)]
theorem kX5_firstBeyond_0 : kx_oks kxL_X5 false cX5_firstBeyond 0 bX5_firstBeyond_0 = true := by decide +kernel
def bX5_firstBeyond_7 : List kx_O := [(.aload_n 0, 0, 0, 0, .null), (.aload_n 0, 0, 0, 0, .null), (.getfield 37, 5, 8, 0, .null), (.iload_n 1, 1, 0, 0, .null)]
theorem kX5_firstBeyond_7 : kx_oks kxL_X5 false cX5_firstBeyond 7 bX5_firstBeyond_7 = true := by decide +kernel
def bX5_firstBeyond_16 : List kx_O := [(.ifCond .ne 15, 31, 0, 0, .null)]
theorem kX5_firstBeyond_16 : kx_oks kxL_X5 false cX5_firstBeyond 16 bX5_firstBeyond_16 = true := by decide +kernel
def bX5_firstBeyond_19 : List kx_O := [(.aload_n 0, 0, 0, 0, .null), (.ldc 71, 0, 0, 0, .int (200000)), (.iload_n 1, 1, 0, 0, .null)]
theorem kX5_firstBeyond_19 : kx_oks kxL_X5 false cX5_firstBeyond 19 bX5_firstBeyond_19 = true := by decide +kernel
def bX5_firstBeyond_26 : List kx_O := [(.ifCond .ne 5, 31, 0, 0, .null)]
theorem kX5_firstBeyond_26 : kx_oks kxL_X5 false cX5_firstBeyond 26 bX5_firstBeyond_26 = true := by decide +kernel
def bX5_firstBeyond_29 : List kx_O := [(.iconst (-1), 0, 0, 0, .int (-1)), (.ireturn, 0, 0, 0, .null)]
theorem kX5_firstBeyond_29 : kx_oks kxL_X5 false cX5_firstBeyond 29 bX5_firstBeyond_29 = true := by decide +kernel
def bX5_firstBeyond_31 : List kx_O := [(.aload_n 0, 0, 0, 0, .null), (.aload_n 0, 0, 0, 0, .null), (.getfield 37, 5, 8, 0, .null), (.iload_n 1, 1, 0, 0, .null)]
theorem kX5_firstBeyond_31 : kx_oks kxL_X5 false cX5_firstBeyond 31 bX5_firstBeyond_31 = true := by decide +kernel
def bX5_firstBeyond_40 : List kx_O := [(.ifCond .eq 8, 48, 0, 0, .null)]
theorem kX5_firstBeyond_40 : kx_oks kxL_X5 false cX5_firstBeyond 40 bX5_firstBeyond_40 = true := by decide +kernel
def bX5_firstBeyond_43 : List kx_O := [(.aload_n 0, 0, 0, 0, .null), (.getfield 37, 5, 8, 0, .null), (.ireturn, 0, 0, 0, .null)]
theorem kX5_firstBeyond_43 : kx_oks kxL_X5 false cX5_firstBeyond 43 bX5_firstBeyond_43 = true := by decide +kernel
def bX5_firstBeyond_48 : List kx_O := [(.aload_n 0, 0, 0, 0, .null), (.getfield 37, 5, 8, 0, .null), (.istore_n 2, 2, 0, 0, .null), (.ldc 71, 0, 0, 0, .int (200000)), (.istore_n 3, 3, 0, 0, .null), (.iconst 0, 0, 0, 0, .int 0), (.istore 4, 4, 0, 0, .null)]
theorem kX5_firstBeyond_48 : kx_oks kxL_X5 false cX5_firstBeyond 48 bX5_firstBeyond_48 = true := by decide +kernel
def bX5_firstBeyond_59 : List kx_O := [(.iload 4, 4, 0, 0, .null), (.bipush 20, 0, 0, 0, .int 20), (.if_icmp .ge 42, 105, 0, 0, .null)]
theorem kX5_firstBeyond_59 : kx_oks kxL_X5 false cX5_firstBeyond 59 bX5_firstBeyond_59 = true := by decide +kernel
def bX5_firstBeyond_66 : List kx_O := [(.iload_n 3, 3, 0, 0, .null), (.iload_n 2, 2, 0, 0, .null), (.isub, 0, 0, 0, .null), (.iconst 1, 0, 0, 0, .int 1), (.if_icmp .le 35, 105, 0, 0, .null)]
theorem kX5_firstBeyond_66 : kx_oks kxL_X5 false cX5_firstBeyond 66 bX5_firstBeyond_66 = true := by decide +kernel
def bX5_firstBeyond_73 : List kx_O := [(.iload_n 2, 2, 0, 0, .null), (.iload_n 3, 3, 0, 0, .null), (.iadd, 0, 0, 0, .null), (.iconst 2, 0, 0, 0, .int 2), (.idiv, 0, 0, 0, .null), (.istore 5, 5, 0, 0, .null), (.aload_n 0, 0, 0, 0, .null), (.iload 5, 5, 0, 0, .null), (.iload_n 1, 1, 0, 0, .null)]
theorem kX5_firstBeyond_73 : kx_oks kxL_X5 false cX5_firstBeyond 73 bX5_firstBeyond_73 = true := by decide +kernel
def bX5_firstBeyond_87 : List kx_O := [(.ifCond .eq 9, 96, 0, 0, .null)]
theorem kX5_firstBeyond_87 : kx_oks kxL_X5 false cX5_firstBeyond 87 bX5_firstBeyond_87 = true := by decide +kernel
def bX5_firstBeyond_90 : List kx_O := [(.iload 5, 5, 0, 0, .null), (.istore_n 3, 3, 0, 0, .null), (.goto 6, 99, 0, 0, .null)]
theorem kX5_firstBeyond_90 : kx_oks kxL_X5 false cX5_firstBeyond 90 bX5_firstBeyond_90 = true := by decide +kernel
def bX5_firstBeyond_96 : List kx_O := [(.iload 5, 5, 0, 0, .null), (.istore_n 2, 2, 0, 0, .null)]
theorem kX5_firstBeyond_96 : kx_oks kxL_X5 false cX5_firstBeyond 96 bX5_firstBeyond_96 = true := by decide +kernel
def bX5_firstBeyond_99 : List kx_O := [(.iinc 4 1, 4, 0, 0, .int 1), (.goto (-43), 59, 0, 0, .null)]
theorem kX5_firstBeyond_99 : kx_oks kxL_X5 false cX5_firstBeyond 99 bX5_firstBeyond_99 = true := by decide +kernel
def bX5_firstBeyond_105 : List kx_O := [(.iload_n 3, 3, 0, 0, .null), (.ireturn, 0, 0, 0, .null)]
theorem kX5_firstBeyond_105 : kx_oks kxL_X5 false cX5_firstBeyond 105 bX5_firstBeyond_105 = true := by decide +kernel
theorem dX5_firstBeyond_13 : decode cX5_firstBeyond 13 = .ok (.invokevirtual 67, 3) := by decide +kernel
theorem dX5_firstBeyond_23 : decode cX5_firstBeyond 23 = .ok (.invokevirtual 67, 3) := by decide +kernel
theorem dX5_firstBeyond_37 : decode cX5_firstBeyond 37 = .ok (.invokevirtual 67, 3) := by decide +kernel
theorem dX5_firstBeyond_84 : decode cX5_firstBeyond 84 = .ok (.invokevirtual 67, 3) := by decide +kernel
set_option maxRecDepth 100000 in
set_option maxHeartbeats 4000000 in
theorem ct_X5_firstBeyond (l : Launch) (G : kx_G) {P : kx_P} {sz : Nat} {F : Nat → Int32} (hO : P 84 = kO 5 (kf cr5 F)) {v : Int32}  : kx_M l G sX5_firstBeyond 4 0 0 [.ref 84, .int (v)] P sz (some (.int (cx_fb F v))) P sz := by
  refine kx_mk kx_tab kxLok_X5 (ini := false) [some (.ref 84), some (.int (v)), none, none, none, none] ⟨by decide, rfl, by decide, by decide⟩ (⟨_, rfl⟩) rfl rfl (fun g hB hC => ?_)
  have loop59 : ∀ (n9 k : Nat) (w b : Int32) (x : Option Value), k + n9 = 20 → cx_hv F v n9 w b = cx_fb F v → g 59 [some (.ref 84), some (.int v), some (.int w), some (.int b), some (.int (nI k)), x] [] P sz 0 0 := by
    intro n9
    induction n9 with
    | zero =>
      intro k w b x hk he
      obtain rfl : k = 20 := by omega
      rw [cx_hv] at he
      rw [← he] at hB
      refine hB bX5_firstBeyond_59 _ _ _ _ _ _ _ kX5_firstBeyond_59 ?_
      dsimp only [bX5_firstBeyond_59, kx_wp, kx_step, kx_lI, kx_lL, kx_lA, kx_gl, kx_pI, kx_pL, kx_pR, kx_pA, kx_pV, kx_s1, kx_s2, kx_sl, kx_pre, kx_c2, kx_pl, kx_cmp, kx_oF, kx_eqN, kx_nil, kx_c1, kx_ft, kx_aI, kx_aL, kx_aR, kx_ln, Nat.reduceAdd, Option.toList, List.cons_append, List.nil_append, cf5_5, cf5_8]
      repeat (simp only [hO, nI_1, ks_eq, ks_ss]; try dsimp only [kx_wp, kx_step, kx_lI, kx_lL, kx_lA, kx_gl, kx_pI, kx_pL, kx_pR, kx_pA, kx_pV, kx_s1, kx_s2, kx_sl, kx_pre, kx_c2, kx_pl, kx_cmp, kx_oF, kx_eqN, kx_nil, kx_c1, kx_ft, kx_aI, kx_aL, kx_aR, kx_ln, Nat.reduceAdd, Option.toList, List.cons_append, List.nil_append, cf5_5, cf5_8])
      repeat' apply And.intro
      all_goals try (first | with_reducible assumption | (with_reducible refine ck_nzI ?_; simp; done) | (with_reducible refine ck_nzL ?_; simp; done) | (with_reducible refine vp_in_nI ?_ ?_ <;> first | omega | decide) | (with_reducible refine Nat.le_of_ble_eq_true ?_; rfl) | omega)
      · intro zc63
        with_reducible first | have ze63 := Int32.not_lt.mpr zc63 | have ze63 := zc63
        refine hB bX5_firstBeyond_105 _ _ _ _ _ _ _ kX5_firstBeyond_105 ?_
        dsimp only [bX5_firstBeyond_105, kx_wp, kx_step, kx_lI, kx_lL, kx_lA, kx_gl, kx_pI, kx_pL, kx_pR, kx_pA, kx_pV, kx_s1, kx_s2, kx_sl, kx_pre, kx_c2, kx_pl, kx_cmp, kx_oF, kx_eqN, kx_nil, kx_c1, kx_ft, kx_aI, kx_aL, kx_aR, kx_ln, Nat.reduceAdd, Option.toList, List.cons_append, List.nil_append, cf5_5, cf5_8]
        repeat (simp only [hO, nI_1, ks_eq, ks_ss]; try dsimp only [kx_wp, kx_step, kx_lI, kx_lL, kx_lA, kx_gl, kx_pI, kx_pL, kx_pR, kx_pA, kx_pV, kx_s1, kx_s2, kx_sl, kx_pre, kx_c2, kx_pl, kx_cmp, kx_oF, kx_eqN, kx_nil, kx_c1, kx_ft, kx_aI, kx_aL, kx_aR, kx_ln, Nat.reduceAdd, Option.toList, List.cons_append, List.nil_append, cf5_5, cf5_8])
        all_goals (repeat' apply And.intro)
        all_goals ((try clear hB hC); first | exact True.intro | exact absurd ze16 zc40 | first | exact True.intro | with_reducible rfl | with_reducible assumption | (with_reducible refine vp_in_nI ?_ ?_ <;> first | omega | decide) | exact Nat.le_of_ble_eq_true rfl | (with_reducible refine ck_nzI ?_; simp; done) | (with_reducible refine ck_nzL ?_; simp; done) | (simp only [pk_us, pk_uLs, cx_fb, zc63, ze63, ↓reduceIte, not_true_eq_false, not_false_eq_true]; done) | (simp only [cx_fb, zc63, ze63, ↓reduceIte, not_true_eq_false, not_false_eq_true]; with_reducible rfl) | skip)
      · intro zc63
        first | exact absurd rfl zc63 | exact absurd zc63 (by decide) | exact absurd (by decide) zc63 | (exfalso; first | exact absurd ((nI_leI (a := 20) (b := k) (by omega) (by omega)).mpr (by omega)) zc63 | exact absurd ((nI_leI (a := 20) (b := k) (by omega) (by omega)).mp zc63) (by omega)) | (exfalso; simp_all; done)
    | succ n9 ih =>
      intro k w b x hk he
      rw [cx_hv] at he
      refine hB bX5_firstBeyond_59 _ _ _ _ _ _ _ kX5_firstBeyond_59 ?_
      dsimp only [bX5_firstBeyond_59, kx_wp, kx_step, kx_lI, kx_lL, kx_lA, kx_gl, kx_pI, kx_pL, kx_pR, kx_pA, kx_pV, kx_s1, kx_s2, kx_sl, kx_pre, kx_c2, kx_pl, kx_cmp, kx_oF, kx_eqN, kx_nil, kx_c1, kx_ft, kx_aI, kx_aL, kx_aR, kx_ln, Nat.reduceAdd, Option.toList, List.cons_append, List.nil_append, cf5_5, cf5_8]
      repeat (simp only [hO, nI_1, ks_eq, ks_ss]; try dsimp only [kx_wp, kx_step, kx_lI, kx_lL, kx_lA, kx_gl, kx_pI, kx_pL, kx_pR, kx_pA, kx_pV, kx_s1, kx_s2, kx_sl, kx_pre, kx_c2, kx_pl, kx_cmp, kx_oF, kx_eqN, kx_nil, kx_c1, kx_ft, kx_aI, kx_aL, kx_aR, kx_ln, Nat.reduceAdd, Option.toList, List.cons_append, List.nil_append, cf5_5, cf5_8])
      repeat' apply And.intro
      all_goals try (first | with_reducible assumption | (with_reducible refine ck_nzI ?_; simp; done) | (with_reducible refine ck_nzL ?_; simp; done) | (with_reducible refine vp_in_nI ?_ ?_ <;> first | omega | decide) | (with_reducible refine Nat.le_of_ble_eq_true ?_; rfl) | omega)
      · intro zc63
        first | exact absurd rfl zc63 | exact absurd zc63 (by decide) | exact absurd (by decide) zc63 | (exfalso; first | exact absurd ((nI_leI (a := 20) (b := k) (by omega) (by omega)).mpr (by omega)) zc63 | exact absurd ((nI_leI (a := 20) (b := k) (by omega) (by omega)).mp zc63) (by omega)) | (exfalso; simp_all; done)
      · intro zc63
        with_reducible first | have ze63 := Int32.not_le.mp zc63 | have ze63 := zc63
        refine hB bX5_firstBeyond_66 _ _ _ _ _ _ _ kX5_firstBeyond_66 ?_
        dsimp only [bX5_firstBeyond_66, kx_wp, kx_step, kx_lI, kx_lL, kx_lA, kx_gl, kx_pI, kx_pL, kx_pR, kx_pA, kx_pV, kx_s1, kx_s2, kx_sl, kx_pre, kx_c2, kx_pl, kx_cmp, kx_oF, kx_eqN, kx_nil, kx_c1, kx_ft, kx_aI, kx_aL, kx_aR, kx_ln, Nat.reduceAdd, Option.toList, List.cons_append, List.nil_append, cf5_5, cf5_8]
        repeat (simp only [hO, nI_1, ks_eq, ks_ss]; try dsimp only [kx_wp, kx_step, kx_lI, kx_lL, kx_lA, kx_gl, kx_pI, kx_pL, kx_pR, kx_pA, kx_pV, kx_s1, kx_s2, kx_sl, kx_pre, kx_c2, kx_pl, kx_cmp, kx_oF, kx_eqN, kx_nil, kx_c1, kx_ft, kx_aI, kx_aL, kx_aR, kx_ln, Nat.reduceAdd, Option.toList, List.cons_append, List.nil_append, cf5_5, cf5_8])
        repeat' apply And.intro
        all_goals try (first | with_reducible assumption | (with_reducible refine ck_nzI ?_; simp; done) | (with_reducible refine ck_nzL ?_; simp; done) | (with_reducible refine vp_in_nI ?_ ?_ <;> first | omega | decide) | (with_reducible refine Nat.le_of_ble_eq_true ?_; rfl) | omega)
        · intro zc70
          with_reducible first | have ze70 := Int32.not_lt.mpr zc70 | have ze70 := zc70
          simp only [zc63, ze63, zc70, ze70, ↓reduceIte] at he
          rw [← he] at hB
          refine hB bX5_firstBeyond_105 _ _ _ _ _ _ _ kX5_firstBeyond_105 ?_
          dsimp only [bX5_firstBeyond_105, kx_wp, kx_step, kx_lI, kx_lL, kx_lA, kx_gl, kx_pI, kx_pL, kx_pR, kx_pA, kx_pV, kx_s1, kx_s2, kx_sl, kx_pre, kx_c2, kx_pl, kx_cmp, kx_oF, kx_eqN, kx_nil, kx_c1, kx_ft, kx_aI, kx_aL, kx_aR, kx_ln, Nat.reduceAdd, Option.toList, List.cons_append, List.nil_append]
          exact ⟨rfl, rfl, rfl⟩
        · intro zc70
          with_reducible first | have ze70 := Int32.not_le.mp zc70 | have ze70 := zc70
          refine hB bX5_firstBeyond_73 _ _ _ _ _ _ _ kX5_firstBeyond_73 ?_
          dsimp only [bX5_firstBeyond_73, kx_wp, kx_step, kx_lI, kx_lL, kx_lA, kx_gl, kx_pI, kx_pL, kx_pR, kx_pA, kx_pV, kx_s1, kx_s2, kx_sl, kx_pre, kx_c2, kx_pl, kx_cmp, kx_oF, kx_eqN, kx_nil, kx_c1, kx_ft, kx_aI, kx_aL, kx_aR, kx_ln, Nat.reduceAdd, Option.toList, List.cons_append, List.nil_append, cf5_5, cf5_8]
          repeat (simp only [hO, nI_1, ks_eq, ks_ss]; try dsimp only [kx_wp, kx_step, kx_lI, kx_lL, kx_lA, kx_gl, kx_pI, kx_pL, kx_pR, kx_pA, kx_pV, kx_s1, kx_s2, kx_sl, kx_pre, kx_c2, kx_pl, kx_cmp, kx_oF, kx_eqN, kx_nil, kx_c1, kx_ft, kx_aI, kx_aL, kx_aR, kx_ln, Nat.reduceAdd, Option.toList, List.cons_append, List.nil_append, cf5_5, cf5_8])
          repeat' apply And.intro
          all_goals try (first | with_reducible assumption | (with_reducible refine ck_nzI ?_; simp; done) | (with_reducible refine ck_nzL ?_; simp; done) | (with_reducible refine vp_in_nI ?_ ?_ <;> first | omega | decide) | (with_reducible refine Nat.le_of_ble_eq_true ?_; rfl) | omega)
          refine hC.1 67 _ _ _ _ _ _ _ 5 _ _ _ _ _ _ _ _ _ _ _ _ lX5_67 (ct_X5_isBeyond l G hO) ⟨by decide, rfl⟩ (by first | assumption | (simp only [hO, nI_1, ks_eq, ks_ss])) rfl rfl (Nat.le_of_ble_eq_true rfl) (by decide) (by decide) (by omega) (by omega) dX5_firstBeyond_84 ?_
          refine hB bX5_firstBeyond_87 _ _ _ _ _ _ _ kX5_firstBeyond_87 ?_
          dsimp only [bX5_firstBeyond_87, kx_wp, kx_step, kx_lI, kx_lL, kx_lA, kx_gl, kx_pI, kx_pL, kx_pR, kx_pA, kx_pV, kx_s1, kx_s2, kx_sl, kx_pre, kx_c2, kx_pl, kx_cmp, kx_oF, kx_eqN, kx_nil, kx_c1, kx_ft, kx_aI, kx_aL, kx_aR, kx_ln, Nat.reduceAdd, Option.toList, List.cons_append, List.nil_append, cf5_5, cf5_8]
          repeat (simp only [hO, nI_1, ks_eq, ks_ss]; try dsimp only [kx_wp, kx_step, kx_lI, kx_lL, kx_lA, kx_gl, kx_pI, kx_pL, kx_pR, kx_pA, kx_pV, kx_s1, kx_s2, kx_sl, kx_pre, kx_c2, kx_pl, kx_cmp, kx_oF, kx_eqN, kx_nil, kx_c1, kx_ft, kx_aI, kx_aL, kx_aR, kx_ln, Nat.reduceAdd, Option.toList, List.cons_append, List.nil_append, cf5_5, cf5_8])
          repeat' apply And.intro
          all_goals try (first | with_reducible assumption | (with_reducible refine ck_nzI ?_; simp; done) | (with_reducible refine ck_nzL ?_; simp; done) | (with_reducible refine vp_in_nI ?_ ?_ <;> first | omega | decide) | (with_reducible refine Nat.le_of_ble_eq_true ?_; rfl) | omega)
          · intro zc87
            have ze87 := zc87
            refine hB bX5_firstBeyond_96 _ _ _ _ _ _ _ kX5_firstBeyond_96 ?_
            dsimp only [bX5_firstBeyond_96, kx_wp, kx_step, kx_lI, kx_lL, kx_lA, kx_gl, kx_pI, kx_pL, kx_pR, kx_pA, kx_pV, kx_s1, kx_s2, kx_sl, kx_pre, kx_c2, kx_pl, kx_cmp, kx_oF, kx_eqN, kx_nil, kx_c1, kx_ft, kx_aI, kx_aL, kx_aR, kx_ln, Nat.reduceAdd, Option.toList, List.cons_append, List.nil_append, cf5_5, cf5_8]
            repeat (simp only [hO, nI_1, ks_eq, ks_ss]; try dsimp only [kx_wp, kx_step, kx_lI, kx_lL, kx_lA, kx_gl, kx_pI, kx_pL, kx_pR, kx_pA, kx_pV, kx_s1, kx_s2, kx_sl, kx_pre, kx_c2, kx_pl, kx_cmp, kx_oF, kx_eqN, kx_nil, kx_c1, kx_ft, kx_aI, kx_aL, kx_aR, kx_ln, Nat.reduceAdd, Option.toList, List.cons_append, List.nil_append, cf5_5, cf5_8])
            repeat' apply And.intro
            all_goals try (first | with_reducible assumption | (with_reducible refine ck_nzI ?_; simp; done) | (with_reducible refine ck_nzL ?_; simp; done) | (with_reducible refine vp_in_nI ?_ ?_ <;> first | omega | decide) | (with_reducible refine Nat.le_of_ble_eq_true ?_; rfl) | omega)
            refine hB bX5_firstBeyond_99 _ _ _ _ _ _ _ kX5_firstBeyond_99 ?_
            dsimp only [bX5_firstBeyond_99, kx_wp, kx_step, kx_lI, kx_lL, kx_lA, kx_gl, kx_pI, kx_pL, kx_pR, kx_pA, kx_pV, kx_s1, kx_s2, kx_sl, kx_pre, kx_c2, kx_pl, kx_cmp, kx_oF, kx_eqN, kx_nil, kx_c1, kx_ft, kx_aI, kx_aL, kx_aR, kx_ln, Nat.reduceAdd, Option.toList, List.cons_append, List.nil_append, cf5_5, cf5_8]
            repeat (simp only [hO, nI_1, ks_eq, ks_ss]; try dsimp only [kx_wp, kx_step, kx_lI, kx_lL, kx_lA, kx_gl, kx_pI, kx_pL, kx_pR, kx_pA, kx_pV, kx_s1, kx_s2, kx_sl, kx_pre, kx_c2, kx_pl, kx_cmp, kx_oF, kx_eqN, kx_nil, kx_c1, kx_ft, kx_aI, kx_aL, kx_aR, kx_ln, Nat.reduceAdd, Option.toList, List.cons_append, List.nil_append, cf5_5, cf5_8])
            repeat' apply And.intro
            all_goals try (first | with_reducible assumption | (with_reducible refine ck_nzI ?_; simp; done) | (with_reducible refine ck_nzL ?_; simp; done) | (with_reducible refine vp_in_nI ?_ ?_ <;> first | omega | decide) | (with_reducible refine Nat.le_of_ble_eq_true ?_; rfl) | omega)
            simp only [zc63, ze63, zc70, ze70, eq_true ze87, ↓reduceIte] at he
            exact ih (k + 1) _ _ _ (by omega) he
          · intro zc87
            have ze87 := zc87
            refine hB bX5_firstBeyond_90 _ _ _ _ _ _ _ kX5_firstBeyond_90 ?_
            dsimp only [bX5_firstBeyond_90, kx_wp, kx_step, kx_lI, kx_lL, kx_lA, kx_gl, kx_pI, kx_pL, kx_pR, kx_pA, kx_pV, kx_s1, kx_s2, kx_sl, kx_pre, kx_c2, kx_pl, kx_cmp, kx_oF, kx_eqN, kx_nil, kx_c1, kx_ft, kx_aI, kx_aL, kx_aR, kx_ln, Nat.reduceAdd, Option.toList, List.cons_append, List.nil_append, cf5_5, cf5_8]
            repeat (simp only [hO, nI_1, ks_eq, ks_ss]; try dsimp only [kx_wp, kx_step, kx_lI, kx_lL, kx_lA, kx_gl, kx_pI, kx_pL, kx_pR, kx_pA, kx_pV, kx_s1, kx_s2, kx_sl, kx_pre, kx_c2, kx_pl, kx_cmp, kx_oF, kx_eqN, kx_nil, kx_c1, kx_ft, kx_aI, kx_aL, kx_aR, kx_ln, Nat.reduceAdd, Option.toList, List.cons_append, List.nil_append, cf5_5, cf5_8])
            repeat' apply And.intro
            all_goals try (first | with_reducible assumption | (with_reducible refine ck_nzI ?_; simp; done) | (with_reducible refine ck_nzL ?_; simp; done) | (with_reducible refine vp_in_nI ?_ ?_ <;> first | omega | decide) | (with_reducible refine Nat.le_of_ble_eq_true ?_; rfl) | omega)
            refine hB bX5_firstBeyond_99 _ _ _ _ _ _ _ kX5_firstBeyond_99 ?_
            dsimp only [bX5_firstBeyond_99, kx_wp, kx_step, kx_lI, kx_lL, kx_lA, kx_gl, kx_pI, kx_pL, kx_pR, kx_pA, kx_pV, kx_s1, kx_s2, kx_sl, kx_pre, kx_c2, kx_pl, kx_cmp, kx_oF, kx_eqN, kx_nil, kx_c1, kx_ft, kx_aI, kx_aL, kx_aR, kx_ln, Nat.reduceAdd, Option.toList, List.cons_append, List.nil_append, cf5_5, cf5_8]
            repeat (simp only [hO, nI_1, ks_eq, ks_ss]; try dsimp only [kx_wp, kx_step, kx_lI, kx_lL, kx_lA, kx_gl, kx_pI, kx_pL, kx_pR, kx_pA, kx_pV, kx_s1, kx_s2, kx_sl, kx_pre, kx_c2, kx_pl, kx_cmp, kx_oF, kx_eqN, kx_nil, kx_c1, kx_ft, kx_aI, kx_aL, kx_aR, kx_ln, Nat.reduceAdd, Option.toList, List.cons_append, List.nil_append, cf5_5, cf5_8])
            repeat' apply And.intro
            all_goals try (first | with_reducible assumption | (with_reducible refine ck_nzI ?_; simp; done) | (with_reducible refine ck_nzL ?_; simp; done) | (with_reducible refine vp_in_nI ?_ ?_ <;> first | omega | decide) | (with_reducible refine Nat.le_of_ble_eq_true ?_; rfl) | omega)
            simp only [zc63, ze63, zc70, ze70, ze87, ↓reduceIte] at he
            exact ih (k + 1) _ _ _ (by omega) he
  refine hB bX5_firstBeyond_0 _ _ _ _ _ _ _ kX5_firstBeyond_0 ?_
  dsimp only [bX5_firstBeyond_0, kx_wp, kx_step, kx_lI, kx_lL, kx_lA, kx_gl, kx_pI, kx_pL, kx_pR, kx_pA, kx_pV, kx_s1, kx_s2, kx_sl, kx_pre, kx_c2, kx_pl, kx_cmp, kx_oF, kx_eqN, kx_nil, kx_c1, kx_ft, kx_aI, kx_aL, kx_aR, kx_ln, Nat.reduceAdd, Option.toList, List.cons_append, List.nil_append, cf5_5, cf5_8]
  repeat (simp only [hO, nI_1, ks_eq, ks_ss]; try dsimp only [kx_wp, kx_step, kx_lI, kx_lL, kx_lA, kx_gl, kx_pI, kx_pL, kx_pR, kx_pA, kx_pV, kx_s1, kx_s2, kx_sl, kx_pre, kx_c2, kx_pl, kx_cmp, kx_oF, kx_eqN, kx_nil, kx_c1, kx_ft, kx_aI, kx_aL, kx_aR, kx_ln, Nat.reduceAdd, Option.toList, List.cons_append, List.nil_append, cf5_5, cf5_8])
  repeat' apply And.intro
  all_goals try (first | with_reducible assumption | (with_reducible refine ck_nzI ?_; simp; done) | (with_reducible refine ck_nzL ?_; simp; done) | (with_reducible refine vp_in_nI ?_ ?_ <;> first | omega | decide) | (with_reducible refine Nat.le_of_ble_eq_true ?_; rfl) | omega)
  · intro zc4
    have ze4 := zc4
    refine hB bX5_firstBeyond_29 _ _ _ _ _ _ _ kX5_firstBeyond_29 ?_
    dsimp only [bX5_firstBeyond_29, kx_wp, kx_step, kx_lI, kx_lL, kx_lA, kx_gl, kx_pI, kx_pL, kx_pR, kx_pA, kx_pV, kx_s1, kx_s2, kx_sl, kx_pre, kx_c2, kx_pl, kx_cmp, kx_oF, kx_eqN, kx_nil, kx_c1, kx_ft, kx_aI, kx_aL, kx_aR, kx_ln, Nat.reduceAdd, Option.toList, List.cons_append, List.nil_append, cf5_5, cf5_8]
    repeat (simp only [hO, nI_1, ks_eq, ks_ss]; try dsimp only [kx_wp, kx_step, kx_lI, kx_lL, kx_lA, kx_gl, kx_pI, kx_pL, kx_pR, kx_pA, kx_pV, kx_s1, kx_s2, kx_sl, kx_pre, kx_c2, kx_pl, kx_cmp, kx_oF, kx_eqN, kx_nil, kx_c1, kx_ft, kx_aI, kx_aL, kx_aR, kx_ln, Nat.reduceAdd, Option.toList, List.cons_append, List.nil_append, cf5_5, cf5_8])
    all_goals (repeat' apply And.intro)
    all_goals ((try clear hB hC); first | exact True.intro | exact absurd ze16 zc40 | first | exact True.intro | with_reducible rfl | with_reducible assumption | (with_reducible refine vp_in_nI ?_ ?_ <;> first | omega | decide) | exact Nat.le_of_ble_eq_true rfl | (with_reducible refine ck_nzI ?_; simp; done) | (with_reducible refine ck_nzL ?_; simp; done) | (simp only [pk_us, pk_uLs, cx_fb, eq_true ze4, ↓reduceIte, not_true_eq_false, not_false_eq_true]; done) | (simp only [cx_fb, eq_true ze4, ↓reduceIte, not_true_eq_false, not_false_eq_true]; with_reducible rfl) | skip)
  · intro zc4
    have ze4 := zc4
    refine hB bX5_firstBeyond_7 _ _ _ _ _ _ _ kX5_firstBeyond_7 ?_
    dsimp only [bX5_firstBeyond_7, kx_wp, kx_step, kx_lI, kx_lL, kx_lA, kx_gl, kx_pI, kx_pL, kx_pR, kx_pA, kx_pV, kx_s1, kx_s2, kx_sl, kx_pre, kx_c2, kx_pl, kx_cmp, kx_oF, kx_eqN, kx_nil, kx_c1, kx_ft, kx_aI, kx_aL, kx_aR, kx_ln, Nat.reduceAdd, Option.toList, List.cons_append, List.nil_append, cf5_5, cf5_8]
    repeat (simp only [hO, nI_1, ks_eq, ks_ss]; try dsimp only [kx_wp, kx_step, kx_lI, kx_lL, kx_lA, kx_gl, kx_pI, kx_pL, kx_pR, kx_pA, kx_pV, kx_s1, kx_s2, kx_sl, kx_pre, kx_c2, kx_pl, kx_cmp, kx_oF, kx_eqN, kx_nil, kx_c1, kx_ft, kx_aI, kx_aL, kx_aR, kx_ln, Nat.reduceAdd, Option.toList, List.cons_append, List.nil_append, cf5_5, cf5_8])
    repeat' apply And.intro
    all_goals try (first | with_reducible assumption | (with_reducible refine ck_nzI ?_; simp; done) | (with_reducible refine ck_nzL ?_; simp; done) | (with_reducible refine vp_in_nI ?_ ?_ <;> first | omega | decide) | (with_reducible refine Nat.le_of_ble_eq_true ?_; rfl) | omega)
    refine hC.1 67 _ _ _ _ _ _ _ 5 _ _ _ _ _ _ _ _ _ _ _ _ lX5_67 (ct_X5_isBeyond l G hO) ⟨by decide, rfl⟩ (by first | assumption | (simp only [hO, nI_1, ks_eq, ks_ss])) rfl rfl (Nat.le_of_ble_eq_true rfl) (by decide) (by decide) (by omega) (by omega) dX5_firstBeyond_13 ?_
    refine hB bX5_firstBeyond_16 _ _ _ _ _ _ _ kX5_firstBeyond_16 ?_
    dsimp only [bX5_firstBeyond_16, kx_wp, kx_step, kx_lI, kx_lL, kx_lA, kx_gl, kx_pI, kx_pL, kx_pR, kx_pA, kx_pV, kx_s1, kx_s2, kx_sl, kx_pre, kx_c2, kx_pl, kx_cmp, kx_oF, kx_eqN, kx_nil, kx_c1, kx_ft, kx_aI, kx_aL, kx_aR, kx_ln, Nat.reduceAdd, Option.toList, List.cons_append, List.nil_append, cf5_5, cf5_8]
    repeat (simp only [hO, nI_1, ks_eq, ks_ss]; try dsimp only [kx_wp, kx_step, kx_lI, kx_lL, kx_lA, kx_gl, kx_pI, kx_pL, kx_pR, kx_pA, kx_pV, kx_s1, kx_s2, kx_sl, kx_pre, kx_c2, kx_pl, kx_cmp, kx_oF, kx_eqN, kx_nil, kx_c1, kx_ft, kx_aI, kx_aL, kx_aR, kx_ln, Nat.reduceAdd, Option.toList, List.cons_append, List.nil_append, cf5_5, cf5_8])
    repeat' apply And.intro
    all_goals try (first | with_reducible assumption | (with_reducible refine ck_nzI ?_; simp; done) | (with_reducible refine ck_nzL ?_; simp; done) | (with_reducible refine vp_in_nI ?_ ?_ <;> first | omega | decide) | (with_reducible refine Nat.le_of_ble_eq_true ?_; rfl) | omega)
    · intro zc16
      have ze16 := zc16
      refine hB bX5_firstBeyond_31 _ _ _ _ _ _ _ kX5_firstBeyond_31 ?_
      dsimp only [bX5_firstBeyond_31, kx_wp, kx_step, kx_lI, kx_lL, kx_lA, kx_gl, kx_pI, kx_pL, kx_pR, kx_pA, kx_pV, kx_s1, kx_s2, kx_sl, kx_pre, kx_c2, kx_pl, kx_cmp, kx_oF, kx_eqN, kx_nil, kx_c1, kx_ft, kx_aI, kx_aL, kx_aR, kx_ln, Nat.reduceAdd, Option.toList, List.cons_append, List.nil_append, cf5_5, cf5_8]
      repeat (simp only [hO, nI_1, ks_eq, ks_ss]; try dsimp only [kx_wp, kx_step, kx_lI, kx_lL, kx_lA, kx_gl, kx_pI, kx_pL, kx_pR, kx_pA, kx_pV, kx_s1, kx_s2, kx_sl, kx_pre, kx_c2, kx_pl, kx_cmp, kx_oF, kx_eqN, kx_nil, kx_c1, kx_ft, kx_aI, kx_aL, kx_aR, kx_ln, Nat.reduceAdd, Option.toList, List.cons_append, List.nil_append, cf5_5, cf5_8])
      repeat' apply And.intro
      all_goals try (first | with_reducible assumption | (with_reducible refine ck_nzI ?_; simp; done) | (with_reducible refine ck_nzL ?_; simp; done) | (with_reducible refine vp_in_nI ?_ ?_ <;> first | omega | decide) | (with_reducible refine Nat.le_of_ble_eq_true ?_; rfl) | omega)
      refine hC.1 67 _ _ _ _ _ _ _ 5 _ _ _ _ _ _ _ _ _ _ _ _ lX5_67 (ct_X5_isBeyond l G hO) ⟨by decide, rfl⟩ (by first | assumption | (simp only [hO, nI_1, ks_eq, ks_ss])) rfl rfl (Nat.le_of_ble_eq_true rfl) (by decide) (by decide) (by omega) (by omega) dX5_firstBeyond_37 ?_
      refine hB bX5_firstBeyond_40 _ _ _ _ _ _ _ kX5_firstBeyond_40 ?_
      dsimp only [bX5_firstBeyond_40, kx_wp, kx_step, kx_lI, kx_lL, kx_lA, kx_gl, kx_pI, kx_pL, kx_pR, kx_pA, kx_pV, kx_s1, kx_s2, kx_sl, kx_pre, kx_c2, kx_pl, kx_cmp, kx_oF, kx_eqN, kx_nil, kx_c1, kx_ft, kx_aI, kx_aL, kx_aR, kx_ln, Nat.reduceAdd, Option.toList, List.cons_append, List.nil_append, cf5_5, cf5_8]
      repeat (simp only [hO, nI_1, ks_eq, ks_ss]; try dsimp only [kx_wp, kx_step, kx_lI, kx_lL, kx_lA, kx_gl, kx_pI, kx_pL, kx_pR, kx_pA, kx_pV, kx_s1, kx_s2, kx_sl, kx_pre, kx_c2, kx_pl, kx_cmp, kx_oF, kx_eqN, kx_nil, kx_c1, kx_ft, kx_aI, kx_aL, kx_aR, kx_ln, Nat.reduceAdd, Option.toList, List.cons_append, List.nil_append, cf5_5, cf5_8])
      repeat' apply And.intro
      all_goals try (first | with_reducible assumption | (with_reducible refine ck_nzI ?_; simp; done) | (with_reducible refine ck_nzL ?_; simp; done) | (with_reducible refine vp_in_nI ?_ ?_ <;> first | omega | decide) | (with_reducible refine Nat.le_of_ble_eq_true ?_; rfl) | omega)
      · intro zc40
        have ze40 := zc40
        refine hB bX5_firstBeyond_48 _ _ _ _ _ _ _ kX5_firstBeyond_48 ?_
        dsimp only [bX5_firstBeyond_48, kx_wp, kx_step, kx_lI, kx_lL, kx_lA, kx_gl, kx_pI, kx_pL, kx_pR, kx_pA, kx_pV, kx_s1, kx_s2, kx_sl, kx_pre, kx_c2, kx_pl, kx_cmp, kx_oF, kx_eqN, kx_nil, kx_c1, kx_ft, kx_aI, kx_aL, kx_aR, kx_ln, Nat.reduceAdd, Option.toList, List.cons_append, List.nil_append, cf5_5, cf5_8]
        repeat (simp only [hO, nI_1, ks_eq, ks_ss]; try dsimp only [kx_wp, kx_step, kx_lI, kx_lL, kx_lA, kx_gl, kx_pI, kx_pL, kx_pR, kx_pA, kx_pV, kx_s1, kx_s2, kx_sl, kx_pre, kx_c2, kx_pl, kx_cmp, kx_oF, kx_eqN, kx_nil, kx_c1, kx_ft, kx_aI, kx_aL, kx_aR, kx_ln, Nat.reduceAdd, Option.toList, List.cons_append, List.nil_append, cf5_5, cf5_8])
        repeat' apply And.intro
        all_goals try (first | with_reducible assumption | (with_reducible refine ck_nzI ?_; simp; done) | (with_reducible refine ck_nzL ?_; simp; done) | (with_reducible refine vp_in_nI ?_ ?_ <;> first | omega | decide) | (with_reducible refine Nat.le_of_ble_eq_true ?_; rfl) | omega)
        refine loop59 20 0 _ _ _ (by omega) ?_
        first | exact absurd zc40 zc16 | simp only [cx_fb, ze4, ze16, eq_true ze40, ↓reduceIte]
      · intro zc40
        have ze40 := zc40
        refine hB bX5_firstBeyond_43 _ _ _ _ _ _ _ kX5_firstBeyond_43 ?_
        dsimp only [bX5_firstBeyond_43, kx_wp, kx_step, kx_lI, kx_lL, kx_lA, kx_gl, kx_pI, kx_pL, kx_pR, kx_pA, kx_pV, kx_s1, kx_s2, kx_sl, kx_pre, kx_c2, kx_pl, kx_cmp, kx_oF, kx_eqN, kx_nil, kx_c1, kx_ft, kx_aI, kx_aL, kx_aR, kx_ln, Nat.reduceAdd, Option.toList, List.cons_append, List.nil_append, cf5_5, cf5_8]
        repeat (simp only [hO, nI_1, ks_eq, ks_ss]; try dsimp only [kx_wp, kx_step, kx_lI, kx_lL, kx_lA, kx_gl, kx_pI, kx_pL, kx_pR, kx_pA, kx_pV, kx_s1, kx_s2, kx_sl, kx_pre, kx_c2, kx_pl, kx_cmp, kx_oF, kx_eqN, kx_nil, kx_c1, kx_ft, kx_aI, kx_aL, kx_aR, kx_ln, Nat.reduceAdd, Option.toList, List.cons_append, List.nil_append, cf5_5, cf5_8])
        all_goals (repeat' apply And.intro)
        all_goals ((try clear hB hC); first | exact True.intro | exact absurd ze16 zc40 | first | exact True.intro | with_reducible rfl | with_reducible assumption | (with_reducible refine vp_in_nI ?_ ?_ <;> first | omega | decide) | exact Nat.le_of_ble_eq_true rfl | (with_reducible refine ck_nzI ?_; simp; done) | (with_reducible refine ck_nzL ?_; simp; done) | (simp only [pk_us, pk_uLs, cx_fb, ze4, ze16, ze40, ↓reduceIte, not_true_eq_false, not_false_eq_true]; done) | (simp only [cx_fb, ze4, ze16, ze40, ↓reduceIte, not_true_eq_false, not_false_eq_true]; with_reducible rfl) | skip)
    · intro zc16
      with_reducible first | have ze16 := Decidable.not_not.mp zc16 | have ze16 := zc16
      refine hB bX5_firstBeyond_19 _ _ _ _ _ _ _ kX5_firstBeyond_19 ?_
      dsimp only [bX5_firstBeyond_19, kx_wp, kx_step, kx_lI, kx_lL, kx_lA, kx_gl, kx_pI, kx_pL, kx_pR, kx_pA, kx_pV, kx_s1, kx_s2, kx_sl, kx_pre, kx_c2, kx_pl, kx_cmp, kx_oF, kx_eqN, kx_nil, kx_c1, kx_ft, kx_aI, kx_aL, kx_aR, kx_ln, Nat.reduceAdd, Option.toList, List.cons_append, List.nil_append, cf5_5, cf5_8]
      repeat (simp only [hO, nI_1, ks_eq, ks_ss]; try dsimp only [kx_wp, kx_step, kx_lI, kx_lL, kx_lA, kx_gl, kx_pI, kx_pL, kx_pR, kx_pA, kx_pV, kx_s1, kx_s2, kx_sl, kx_pre, kx_c2, kx_pl, kx_cmp, kx_oF, kx_eqN, kx_nil, kx_c1, kx_ft, kx_aI, kx_aL, kx_aR, kx_ln, Nat.reduceAdd, Option.toList, List.cons_append, List.nil_append, cf5_5, cf5_8])
      repeat' apply And.intro
      all_goals try (first | with_reducible assumption | (with_reducible refine ck_nzI ?_; simp; done) | (with_reducible refine ck_nzL ?_; simp; done) | (with_reducible refine vp_in_nI ?_ ?_ <;> first | omega | decide) | (with_reducible refine Nat.le_of_ble_eq_true ?_; rfl) | omega)
      refine hC.1 67 _ _ _ _ _ _ _ 5 _ _ _ _ _ _ _ _ _ _ _ _ lX5_67 (ct_X5_isBeyond l G hO) ⟨by decide, rfl⟩ (by first | assumption | (simp only [hO, nI_1, ks_eq, ks_ss])) rfl rfl (Nat.le_of_ble_eq_true rfl) (by decide) (by decide) (by omega) (by omega) dX5_firstBeyond_23 ?_
      refine hB bX5_firstBeyond_26 _ _ _ _ _ _ _ kX5_firstBeyond_26 ?_
      dsimp only [bX5_firstBeyond_26, kx_wp, kx_step, kx_lI, kx_lL, kx_lA, kx_gl, kx_pI, kx_pL, kx_pR, kx_pA, kx_pV, kx_s1, kx_s2, kx_sl, kx_pre, kx_c2, kx_pl, kx_cmp, kx_oF, kx_eqN, kx_nil, kx_c1, kx_ft, kx_aI, kx_aL, kx_aR, kx_ln, Nat.reduceAdd, Option.toList, List.cons_append, List.nil_append, cf5_5, cf5_8]
      repeat (simp only [hO, nI_1, ks_eq, ks_ss]; try dsimp only [kx_wp, kx_step, kx_lI, kx_lL, kx_lA, kx_gl, kx_pI, kx_pL, kx_pR, kx_pA, kx_pV, kx_s1, kx_s2, kx_sl, kx_pre, kx_c2, kx_pl, kx_cmp, kx_oF, kx_eqN, kx_nil, kx_c1, kx_ft, kx_aI, kx_aL, kx_aR, kx_ln, Nat.reduceAdd, Option.toList, List.cons_append, List.nil_append, cf5_5, cf5_8])
      repeat' apply And.intro
      all_goals try (first | with_reducible assumption | (with_reducible refine ck_nzI ?_; simp; done) | (with_reducible refine ck_nzL ?_; simp; done) | (with_reducible refine vp_in_nI ?_ ?_ <;> first | omega | decide) | (with_reducible refine Nat.le_of_ble_eq_true ?_; rfl) | omega)
      · intro zc26
        have ze26 := zc26
        refine hB bX5_firstBeyond_31 _ _ _ _ _ _ _ kX5_firstBeyond_31 ?_
        dsimp only [bX5_firstBeyond_31, kx_wp, kx_step, kx_lI, kx_lL, kx_lA, kx_gl, kx_pI, kx_pL, kx_pR, kx_pA, kx_pV, kx_s1, kx_s2, kx_sl, kx_pre, kx_c2, kx_pl, kx_cmp, kx_oF, kx_eqN, kx_nil, kx_c1, kx_ft, kx_aI, kx_aL, kx_aR, kx_ln, Nat.reduceAdd, Option.toList, List.cons_append, List.nil_append, cf5_5, cf5_8]
        repeat (simp only [hO, nI_1, ks_eq, ks_ss]; try dsimp only [kx_wp, kx_step, kx_lI, kx_lL, kx_lA, kx_gl, kx_pI, kx_pL, kx_pR, kx_pA, kx_pV, kx_s1, kx_s2, kx_sl, kx_pre, kx_c2, kx_pl, kx_cmp, kx_oF, kx_eqN, kx_nil, kx_c1, kx_ft, kx_aI, kx_aL, kx_aR, kx_ln, Nat.reduceAdd, Option.toList, List.cons_append, List.nil_append, cf5_5, cf5_8])
        repeat' apply And.intro
        all_goals try (first | with_reducible assumption | (with_reducible refine ck_nzI ?_; simp; done) | (with_reducible refine ck_nzL ?_; simp; done) | (with_reducible refine vp_in_nI ?_ ?_ <;> first | omega | decide) | (with_reducible refine Nat.le_of_ble_eq_true ?_; rfl) | omega)
        refine hC.1 67 _ _ _ _ _ _ _ 5 _ _ _ _ _ _ _ _ _ _ _ _ lX5_67 (ct_X5_isBeyond l G hO) ⟨by decide, rfl⟩ (by first | assumption | (simp only [hO, nI_1, ks_eq, ks_ss])) rfl rfl (Nat.le_of_ble_eq_true rfl) (by decide) (by decide) (by omega) (by omega) dX5_firstBeyond_37 ?_
        refine hB bX5_firstBeyond_40 _ _ _ _ _ _ _ kX5_firstBeyond_40 ?_
        dsimp only [bX5_firstBeyond_40, kx_wp, kx_step, kx_lI, kx_lL, kx_lA, kx_gl, kx_pI, kx_pL, kx_pR, kx_pA, kx_pV, kx_s1, kx_s2, kx_sl, kx_pre, kx_c2, kx_pl, kx_cmp, kx_oF, kx_eqN, kx_nil, kx_c1, kx_ft, kx_aI, kx_aL, kx_aR, kx_ln, Nat.reduceAdd, Option.toList, List.cons_append, List.nil_append, cf5_5, cf5_8]
        repeat (simp only [hO, nI_1, ks_eq, ks_ss]; try dsimp only [kx_wp, kx_step, kx_lI, kx_lL, kx_lA, kx_gl, kx_pI, kx_pL, kx_pR, kx_pA, kx_pV, kx_s1, kx_s2, kx_sl, kx_pre, kx_c2, kx_pl, kx_cmp, kx_oF, kx_eqN, kx_nil, kx_c1, kx_ft, kx_aI, kx_aL, kx_aR, kx_ln, Nat.reduceAdd, Option.toList, List.cons_append, List.nil_append, cf5_5, cf5_8])
        repeat' apply And.intro
        all_goals try (first | with_reducible assumption | (with_reducible refine ck_nzI ?_; simp; done) | (with_reducible refine ck_nzL ?_; simp; done) | (with_reducible refine vp_in_nI ?_ ?_ <;> first | omega | decide) | (with_reducible refine Nat.le_of_ble_eq_true ?_; rfl) | omega)
        · intro zc40
          have ze40 := zc40
          refine hB bX5_firstBeyond_48 _ _ _ _ _ _ _ kX5_firstBeyond_48 ?_
          dsimp only [bX5_firstBeyond_48, kx_wp, kx_step, kx_lI, kx_lL, kx_lA, kx_gl, kx_pI, kx_pL, kx_pR, kx_pA, kx_pV, kx_s1, kx_s2, kx_sl, kx_pre, kx_c2, kx_pl, kx_cmp, kx_oF, kx_eqN, kx_nil, kx_c1, kx_ft, kx_aI, kx_aL, kx_aR, kx_ln, Nat.reduceAdd, Option.toList, List.cons_append, List.nil_append, cf5_5, cf5_8]
          repeat (simp only [hO, nI_1, ks_eq, ks_ss]; try dsimp only [kx_wp, kx_step, kx_lI, kx_lL, kx_lA, kx_gl, kx_pI, kx_pL, kx_pR, kx_pA, kx_pV, kx_s1, kx_s2, kx_sl, kx_pre, kx_c2, kx_pl, kx_cmp, kx_oF, kx_eqN, kx_nil, kx_c1, kx_ft, kx_aI, kx_aL, kx_aR, kx_ln, Nat.reduceAdd, Option.toList, List.cons_append, List.nil_append, cf5_5, cf5_8])
          repeat' apply And.intro
          all_goals try (first | with_reducible assumption | (with_reducible refine ck_nzI ?_; simp; done) | (with_reducible refine ck_nzL ?_; simp; done) | (with_reducible refine vp_in_nI ?_ ?_ <;> first | omega | decide) | (with_reducible refine Nat.le_of_ble_eq_true ?_; rfl) | omega)
          refine loop59 20 0 _ _ _ (by omega) ?_
          first | exact absurd zc40 zc16 | simp only [cx_fb, ze4, eq_true ze16, ze26, eq_true ze40, ↓reduceIte]
        · intro zc40
          have ze40 := zc40
          refine hB bX5_firstBeyond_43 _ _ _ _ _ _ _ kX5_firstBeyond_43 ?_
          dsimp only [bX5_firstBeyond_43, kx_wp, kx_step, kx_lI, kx_lL, kx_lA, kx_gl, kx_pI, kx_pL, kx_pR, kx_pA, kx_pV, kx_s1, kx_s2, kx_sl, kx_pre, kx_c2, kx_pl, kx_cmp, kx_oF, kx_eqN, kx_nil, kx_c1, kx_ft, kx_aI, kx_aL, kx_aR, kx_ln, Nat.reduceAdd, Option.toList, List.cons_append, List.nil_append, cf5_5, cf5_8]
          repeat (simp only [hO, nI_1, ks_eq, ks_ss]; try dsimp only [kx_wp, kx_step, kx_lI, kx_lL, kx_lA, kx_gl, kx_pI, kx_pL, kx_pR, kx_pA, kx_pV, kx_s1, kx_s2, kx_sl, kx_pre, kx_c2, kx_pl, kx_cmp, kx_oF, kx_eqN, kx_nil, kx_c1, kx_ft, kx_aI, kx_aL, kx_aR, kx_ln, Nat.reduceAdd, Option.toList, List.cons_append, List.nil_append, cf5_5, cf5_8])
          all_goals (repeat' apply And.intro)
          all_goals ((try clear hB hC); first | exact True.intro | exact absurd ze16 zc40 | first | exact True.intro | with_reducible rfl | with_reducible assumption | (with_reducible refine vp_in_nI ?_ ?_ <;> first | omega | decide) | exact Nat.le_of_ble_eq_true rfl | (with_reducible refine ck_nzI ?_; simp; done) | (with_reducible refine ck_nzL ?_; simp; done) | (simp only [pk_us, pk_uLs, cx_fb, ze4, eq_true ze16, ze26, ze40, ↓reduceIte, not_true_eq_false, not_false_eq_true]; done) | (simp only [cx_fb, ze4, eq_true ze16, ze26, ze40, ↓reduceIte, not_true_eq_false, not_false_eq_true]; with_reducible rfl) | skip)
      · intro zc26
        with_reducible first | have ze26 := Decidable.not_not.mp zc26 | have ze26 := zc26
        refine hB bX5_firstBeyond_29 _ _ _ _ _ _ _ kX5_firstBeyond_29 ?_
        dsimp only [bX5_firstBeyond_29, kx_wp, kx_step, kx_lI, kx_lL, kx_lA, kx_gl, kx_pI, kx_pL, kx_pR, kx_pA, kx_pV, kx_s1, kx_s2, kx_sl, kx_pre, kx_c2, kx_pl, kx_cmp, kx_oF, kx_eqN, kx_nil, kx_c1, kx_ft, kx_aI, kx_aL, kx_aR, kx_ln, Nat.reduceAdd, Option.toList, List.cons_append, List.nil_append, cf5_5, cf5_8]
        repeat (simp only [hO, nI_1, ks_eq, ks_ss]; try dsimp only [kx_wp, kx_step, kx_lI, kx_lL, kx_lA, kx_gl, kx_pI, kx_pL, kx_pR, kx_pA, kx_pV, kx_s1, kx_s2, kx_sl, kx_pre, kx_c2, kx_pl, kx_cmp, kx_oF, kx_eqN, kx_nil, kx_c1, kx_ft, kx_aI, kx_aL, kx_aR, kx_ln, Nat.reduceAdd, Option.toList, List.cons_append, List.nil_append, cf5_5, cf5_8])
        all_goals (repeat' apply And.intro)
        all_goals ((try clear hB hC); first | exact True.intro | exact absurd ze16 zc40 | first | exact True.intro | with_reducible rfl | with_reducible assumption | (with_reducible refine vp_in_nI ?_ ?_ <;> first | omega | decide) | exact Nat.le_of_ble_eq_true rfl | (with_reducible refine ck_nzI ?_; simp; done) | (with_reducible refine ck_nzL ?_; simp; done) | (simp only [pk_us, pk_uLs, cx_fb, ze4, eq_true ze16, eq_true ze26, ↓reduceIte, not_true_eq_false, not_false_eq_true]; done) | (simp only [cx_fb, ze4, eq_true ze16, eq_true ze26, ↓reduceIte, not_true_eq_false, not_false_eq_true]; with_reducible rfl) | skip)


def cx_md (wh : Nat) (tr lf tk rg : Int32) : Int32 :=
  if rg < tk then (if wh = 0 then 10 * lf else if wh = 1 then lf else 1)
  else if 10 * lf < tr + tk then (if wh = 0 then 10 * lf else if wh = 1 then lf else 1)
  else if wh = 0 then tr + tk else if wh = 1 then tr else 0
def bX10_mend_0 : List kx_O := [(.aload_n 0, 0, 0, 0, .null), (.iload_n 1, 1, 0, 0, .null)]
theorem kX10_mend_0 : kx_oks kxL_X10 false cX10_mend 0 bX10_mend_0 = true := by decide +kernel
def bX10_mend_5 : List kx_O := [(.astore_n 3, 3, 0, 0, .null), (.iload_n 2, 2, 0, 0, .null), (.ifCond .lt 12, 19, 0, 0, .null)]
theorem kX10_mend_5 : kx_oks kxL_X10 false cX10_mend 5 bX10_mend_5 = true := by decide +kernel
def bX10_mend_10 : List kx_O := [(.iload_n 2, 2, 0, 0, .null), (.iconst 2, 0, 0, 0, .int 2), (.if_icmp .gt 7, 19, 0, 0, .null)]
theorem kX10_mend_10 : kx_oks kxL_X10 false cX10_mend 10 bX10_mend_10 = true := by decide +kernel
def bX10_mend_15 : List kx_O := [(.iconst 1, 0, 0, 0, .int 1), (.goto 4, 20, 0, 0, .null)]
theorem kX10_mend_15 : kx_oks kxL_X10 false cX10_mend 15 bX10_mend_15 = true := by decide +kernel
def bX10_mend_19 : List kx_O := [(.iconst 0, 0, 0, 0, .int 0)]
theorem kX10_mend_19 : kx_oks kxL_X10 false cX10_mend 19 bX10_mend_19 = true := by decide +kernel
def bX10_mend_23 : List kx_O := [(.aload_n 3, 3, 0, 0, .null), (.getfield 180, 1, 2, 0, .null), (.getfield 214, 9, 12, 0, .null), (.ifCond .ne 5, 35, 0, 0, .null)]
theorem kX10_mend_23 : kx_oks kxL_X10 false cX10_mend 23 bX10_mend_23 = true := by decide +kernel
def bX10_mend_33 : List kx_O := [(.iconst (-1), 0, 0, 0, .int (-1)), (.ireturn, 0, 0, 0, .null)]
theorem kX10_mend_33 : kx_oks kxL_X10 false cX10_mend 33 bX10_mend_33 = true := by decide +kernel
def bX10_mend_35 : List kx_O := [(.aload_n 3, 3, 0, 0, .null), (.iconst 1, 0, 0, 0, .int 1)]
theorem kX10_mend_35 : kx_oks kxL_X10 false cX10_mend 35 bX10_mend_35 = true := by decide +kernel
def bX10_mend_40 : List kx_O := [(.istore 4, 4, 0, 0, .null), (.aload_n 3, 3, 0, 0, .null), (.iconst (-1), 0, 0, 0, .int (-1))]
theorem kX10_mend_40 : kx_oks kxL_X10 false cX10_mend 40 bX10_mend_40 = true := by decide +kernel
def bX10_mend_47 : List kx_O := [(.istore 5, 5, 0, 0, .null), (.iload 4, 4, 0, 0, .null), (.iconst (-1), 0, 0, 0, .int (-1)), (.if_icmp .eq 9, 61, 0, 0, .null)]
theorem kX10_mend_47 : kx_oks kxL_X10 false cX10_mend 47 bX10_mend_47 = true := by decide +kernel
def bX10_mend_55 : List kx_O := [(.iload 5, 5, 0, 0, .null), (.iconst (-1), 0, 0, 0, .int (-1)), (.if_icmp .ne 5, 63, 0, 0, .null)]
theorem kX10_mend_55 : kx_oks kxL_X10 false cX10_mend 55 bX10_mend_55 = true := by decide +kernel
def bX10_mend_61 : List kx_O := [(.iconst (-1), 0, 0, 0, .int (-1)), (.ireturn, 0, 0, 0, .null)]
theorem kX10_mend_61 : kx_oks kxL_X10 false cX10_mend 61 bX10_mend_61 = true := by decide +kernel
def bX10_mend_63 : List kx_O := [(.aload_n 3, 3, 0, 0, .null), (.iload 4, 4, 0, 0, .null)]
theorem kX10_mend_63 : kx_oks kxL_X10 false cX10_mend 63 bX10_mend_63 = true := by decide +kernel
def bX10_mend_69 : List kx_O := [(.istore 6, 6, 0, 0, .null), (.iload 6, 6, 0, 0, .null), (.aload_n 3, 3, 0, 0, .null), (.getfield 156, 1, 7, 0, .null), (.if_icmp .gt 16, 93, 0, 0, .null)]
theorem kX10_mend_69 : kx_oks kxL_X10 false cX10_mend 69 bX10_mend_69 = true := by decide +kernel
def bX10_mend_80 : List kx_O := [(.iload 4, 4, 0, 0, .null), (.iload 6, 6, 0, 0, .null), (.iadd, 0, 0, 0, .null), (.bipush 10, 0, 0, 0, .int 10), (.iload 5, 5, 0, 0, .null), (.imul, 0, 0, 0, .null), (.if_icmp .le 7, 97, 0, 0, .null)]
theorem kX10_mend_80 : kx_oks kxL_X10 false cX10_mend 80 bX10_mend_80 = true := by decide +kernel
def bX10_mend_93 : List kx_O := [(.iconst 1, 0, 0, 0, .int 1), (.goto 4, 98, 0, 0, .null)]
theorem kX10_mend_93 : kx_oks kxL_X10 false cX10_mend 93 bX10_mend_93 = true := by decide +kernel
def bX10_mend_97 : List kx_O := [(.iconst 0, 0, 0, 0, .int 0)]
theorem kX10_mend_97 : kx_oks kxL_X10 false cX10_mend 97 bX10_mend_97 = true := by decide +kernel
def bX10_mend_98 : List kx_O := [(.istore 7, 7, 0, 0, .null), (.iload_n 2, 2, 0, 0, .null), (.ifCond .ne 22, 123, 0, 0, .null)]
theorem kX10_mend_98 : kx_oks kxL_X10 false cX10_mend 98 bX10_mend_98 = true := by decide +kernel
def bX10_mend_104 : List kx_O := [(.iload 7, 7, 0, 0, .null), (.ifCond .eq 11, 117, 0, 0, .null)]
theorem kX10_mend_104 : kx_oks kxL_X10 false cX10_mend 104 bX10_mend_104 = true := by decide +kernel
def bX10_mend_109 : List kx_O := [(.bipush 10, 0, 0, 0, .int 10), (.iload 5, 5, 0, 0, .null), (.imul, 0, 0, 0, .null), (.goto 8, 122, 0, 0, .null)]
theorem kX10_mend_109 : kx_oks kxL_X10 false cX10_mend 109 bX10_mend_109 = true := by decide +kernel
def bX10_mend_117 : List kx_O := [(.iload 4, 4, 0, 0, .null), (.iload 6, 6, 0, 0, .null), (.iadd, 0, 0, 0, .null)]
theorem kX10_mend_117 : kx_oks kxL_X10 false cX10_mend 117 bX10_mend_117 = true := by decide +kernel
def bX10_mend_122 : List kx_O := [(.ireturn, 0, 0, 0, .null)]
theorem kX10_mend_122 : kx_oks kxL_X10 false cX10_mend 122 bX10_mend_122 = true := by decide +kernel
def bX10_mend_123 : List kx_O := [(.iload_n 2, 2, 0, 0, .null), (.iconst 1, 0, 0, 0, .int 1), (.if_icmp .ne 16, 141, 0, 0, .null)]
theorem kX10_mend_123 : kx_oks kxL_X10 false cX10_mend 123 bX10_mend_123 = true := by decide +kernel
def bX10_mend_128 : List kx_O := [(.iload 7, 7, 0, 0, .null), (.ifCond .eq 8, 138, 0, 0, .null)]
theorem kX10_mend_128 : kx_oks kxL_X10 false cX10_mend 128 bX10_mend_128 = true := by decide +kernel
def bX10_mend_133 : List kx_O := [(.iload 5, 5, 0, 0, .null), (.goto 5, 140, 0, 0, .null)]
theorem kX10_mend_133 : kx_oks kxL_X10 false cX10_mend 133 bX10_mend_133 = true := by decide +kernel
def bX10_mend_138 : List kx_O := [(.iload 4, 4, 0, 0, .null)]
theorem kX10_mend_138 : kx_oks kxL_X10 false cX10_mend 138 bX10_mend_138 = true := by decide +kernel
def bX10_mend_140 : List kx_O := [(.ireturn, 0, 0, 0, .null)]
theorem kX10_mend_140 : kx_oks kxL_X10 false cX10_mend 140 bX10_mend_140 = true := by decide +kernel
def bX10_mend_141 : List kx_O := [(.iload 7, 7, 0, 0, .null), (.ifCond .eq 7, 150, 0, 0, .null)]
theorem kX10_mend_141 : kx_oks kxL_X10 false cX10_mend 141 bX10_mend_141 = true := by decide +kernel
def bX10_mend_146 : List kx_O := [(.iconst 1, 0, 0, 0, .int 1), (.goto 4, 151, 0, 0, .null)]
theorem kX10_mend_146 : kx_oks kxL_X10 false cX10_mend 146 bX10_mend_146 = true := by decide +kernel
def bX10_mend_150 : List kx_O := [(.iconst 0, 0, 0, 0, .int 0)]
theorem kX10_mend_150 : kx_oks kxL_X10 false cX10_mend 150 bX10_mend_150 = true := by decide +kernel
def bX10_mend_151 : List kx_O := [(.ireturn, 0, 0, 0, .null)]
theorem kX10_mend_151 : kx_oks kxL_X10 false cX10_mend 151 bX10_mend_151 = true := by decide +kernel
theorem dX10_mend_2 : decode cX10_mend 2 = .ok (.invokevirtual 138, 3) := by decide +kernel
theorem dX10_mend_20 : decode cX10_mend 20 = .ok (.invokestatic 95, 3) := by decide +kernel
theorem dX10_mend_37 : decode cX10_mend 37 = .ok (.invokevirtual 227, 3) := by decide +kernel
theorem dX10_mend_44 : decode cX10_mend 44 = .ok (.invokevirtual 227, 3) := by decide +kernel
theorem dX10_mend_66 : decode cX10_mend 66 = .ok (.invokevirtual 230, 3) := by decide +kernel
set_option maxRecDepth 100000 in
set_option maxHeartbeats 4000000 in
theorem ct_X10_mend_n0 (l : Launch) (G : kx_G) {P : kx_P} {sz : Nat} {sv : Value} {K : Nat → Int32} (h64 : P 64 = kO 10 (kf (cr10 sv) K)) {cl : Nat} {cn : Nat → Nat} (h69 : P 69 = kR 8 (fun i => if i < cl then some (cn i) else none)) (h7 : K 7 = nI cl) (hcl : cl ≤ 8) {c : Nat} (hc : c < cl) {w : Nat} {V T Q Fo St Al Wm S C : Nat → Int32} {d : Int64} {h : Value} (H : cx_R P (cn c) w V T Q Fo St Al Wm) (hs : P (w + 5) = kI 0 64 S) (hq : P (cn c) = kO 1 (kf (cr1 (.ref w) d h) C)) (h12 : V 12 = 0)  : kx_M l G sX10_mend 6 0 0 [.ref 64, .int (nI c), .int (0)] P sz (some (.int (-1))) P sz := by
  have h64c : 64 ≤ cn c := H.2.1
  have hne : ¬ cn c = w := by have := H.2.2.1; omega
  have h9 : P w = kO 9 (kf (cr9 w) V) := H.2.2.2.2.2.1
  have h9c : ∀ y, kx_set P (cn c) y w = kO 9 (kf (cr9 w) V) := fun y => (ks_ne (fun z => hne z.symm)).trans h9
  have hA : P 65 = kO 0 (kf cr0 Al) := H.2.2.2.2.2.2.2.2.2.2.1
  have hT : P (w + 1) = kI 0 24 T := H.2.2.2.2.2.2.1
  have hPW : cW P (cn c) w S d h C = P := by unfold cW; rw [ks_id hs, ks_id hq]
  refine kx_mk kx_tab kxLok_X10 (ini := false) [some (.ref 64), some (.int (nI c)), some (.int (0)), none, none, none, none, none] ⟨by decide, rfl, by decide, by decide⟩ (⟨_, rfl⟩) rfl rfl (fun g hB hC => ?_)
  refine hB bX10_mend_0 _ _ _ _ _ _ _ kX10_mend_0 ?_
  dsimp only [bX10_mend_0, kx_wp, kx_step, kx_lI, kx_lL, kx_lA, kx_gl, kx_pI, kx_pL, kx_pR, kx_pA, kx_pV, kx_s1, kx_s2, kx_sl, kx_pre, kx_c2, kx_pl, kx_cmp, kx_oF, kx_eqN, kx_nil, kx_c1, kx_ft, kx_aI, kx_aL, kx_aR, kx_ln, Nat.reduceAdd, Option.toList, List.cons_append, List.nil_append, cf1_2, cf9_12, cf1_7]
  repeat (simp only [h64, hq, h9, h12, ks_eq, ks_ss]; try dsimp only [kx_wp, kx_step, kx_lI, kx_lL, kx_lA, kx_gl, kx_pI, kx_pL, kx_pR, kx_pA, kx_pV, kx_s1, kx_s2, kx_sl, kx_pre, kx_c2, kx_pl, kx_cmp, kx_oF, kx_eqN, kx_nil, kx_c1, kx_ft, kx_aI, kx_aL, kx_aR, kx_ln, Nat.reduceAdd, Option.toList, List.cons_append, List.nil_append, cf1_2, cf9_12, cf1_7])
  repeat' apply And.intro
  all_goals try (first | with_reducible assumption | (with_reducible refine ck_nzI ?_; simp; done) | (with_reducible refine ck_nzL ?_; simp; done) | (with_reducible refine vp_in_nI ?_ ?_ <;> first | omega | decide) | (with_reducible refine Nat.le_of_ble_eq_true ?_; rfl) | omega | exact Or.inl trivial | exact Or.inr trivial | exact Or.inl rfl | exact Or.inr rfl)
  refine hC.1 138 _ _ _ _ _ _ _ 10 _ _ _ _ _ _ _ _ _ _ _ _ lX10_138 (ct_X10_theClock l G h64 h69 h7 hcl hc) ⟨by decide, rfl⟩ (h64) rfl rfl (Nat.le_of_ble_eq_true rfl) (by first | decide | omega) (by decide) (by omega) (by omega) dX10_mend_2 ?_
  refine hB bX10_mend_5 _ _ _ _ _ _ _ kX10_mend_5 ?_
  dsimp only [bX10_mend_5, kx_wp, kx_step, kx_lI, kx_lL, kx_lA, kx_gl, kx_pI, kx_pL, kx_pR, kx_pA, kx_pV, kx_s1, kx_s2, kx_sl, kx_pre, kx_c2, kx_pl, kx_cmp, kx_oF, kx_eqN, kx_nil, kx_c1, kx_ft, kx_aI, kx_aL, kx_aR, kx_ln, Nat.reduceAdd, Option.toList, List.cons_append, List.nil_append, cf1_2, cf9_12, cf1_7]
  repeat (simp only [h64, hq, h9, h12, ks_eq, ks_ss]; try dsimp only [kx_wp, kx_step, kx_lI, kx_lL, kx_lA, kx_gl, kx_pI, kx_pL, kx_pR, kx_pA, kx_pV, kx_s1, kx_s2, kx_sl, kx_pre, kx_c2, kx_pl, kx_cmp, kx_oF, kx_eqN, kx_nil, kx_c1, kx_ft, kx_aI, kx_aL, kx_aR, kx_ln, Nat.reduceAdd, Option.toList, List.cons_append, List.nil_append, cf1_2, cf9_12, cf1_7])
  repeat' apply And.intro
  all_goals try (first | with_reducible assumption | (with_reducible refine ck_nzI ?_; simp; done) | (with_reducible refine ck_nzL ?_; simp; done) | (with_reducible refine vp_in_nI ?_ ?_ <;> first | omega | decide) | (with_reducible refine Nat.le_of_ble_eq_true ?_; rfl) | omega | exact Or.inl trivial | exact Or.inr trivial | exact Or.inl rfl | exact Or.inr rfl)
  · intro zc7
    first | exact absurd rfl zc7 | exact absurd zc7 (by decide) | exact absurd (by decide) zc7 | (exfalso; first | exact absurd zc7 (by decide) | exact absurd zc12 (by decide) | exact h12 (Decidable.not_not.mp zc30) | exact zc30 rfl) | (exfalso; simp_all; done)
  · intro zc7
    with_reducible first | have ze7 := Int32.not_lt.mp zc7 | have ze7 := zc7
    refine hB bX10_mend_10 _ _ _ _ _ _ _ kX10_mend_10 ?_
    dsimp only [bX10_mend_10, kx_wp, kx_step, kx_lI, kx_lL, kx_lA, kx_gl, kx_pI, kx_pL, kx_pR, kx_pA, kx_pV, kx_s1, kx_s2, kx_sl, kx_pre, kx_c2, kx_pl, kx_cmp, kx_oF, kx_eqN, kx_nil, kx_c1, kx_ft, kx_aI, kx_aL, kx_aR, kx_ln, Nat.reduceAdd, Option.toList, List.cons_append, List.nil_append, cf1_2, cf9_12, cf1_7]
    repeat (simp only [h64, hq, h9, h12, ks_eq, ks_ss]; try dsimp only [kx_wp, kx_step, kx_lI, kx_lL, kx_lA, kx_gl, kx_pI, kx_pL, kx_pR, kx_pA, kx_pV, kx_s1, kx_s2, kx_sl, kx_pre, kx_c2, kx_pl, kx_cmp, kx_oF, kx_eqN, kx_nil, kx_c1, kx_ft, kx_aI, kx_aL, kx_aR, kx_ln, Nat.reduceAdd, Option.toList, List.cons_append, List.nil_append, cf1_2, cf9_12, cf1_7])
    repeat' apply And.intro
    all_goals try (first | with_reducible assumption | (with_reducible refine ck_nzI ?_; simp; done) | (with_reducible refine ck_nzL ?_; simp; done) | (with_reducible refine vp_in_nI ?_ ?_ <;> first | omega | decide) | (with_reducible refine Nat.le_of_ble_eq_true ?_; rfl) | omega | exact Or.inl trivial | exact Or.inr trivial | exact Or.inl rfl | exact Or.inr rfl)
    · intro zc12
      first | exact absurd rfl zc12 | exact absurd zc12 (by decide) | exact absurd (by decide) zc12 | (exfalso; first | exact absurd zc7 (by decide) | exact absurd zc12 (by decide) | exact h12 (Decidable.not_not.mp zc30) | exact zc30 rfl) | (exfalso; simp_all; done)
    · intro zc12
      with_reducible first | have ze12 := Int32.not_lt.mp zc12 | have ze12 := zc12
      refine hB bX10_mend_15 _ _ _ _ _ _ _ kX10_mend_15 ?_
      dsimp only [bX10_mend_15, kx_wp, kx_step, kx_lI, kx_lL, kx_lA, kx_gl, kx_pI, kx_pL, kx_pR, kx_pA, kx_pV, kx_s1, kx_s2, kx_sl, kx_pre, kx_c2, kx_pl, kx_cmp, kx_oF, kx_eqN, kx_nil, kx_c1, kx_ft, kx_aI, kx_aL, kx_aR, kx_ln, Nat.reduceAdd, Option.toList, List.cons_append, List.nil_append, cf1_2, cf9_12, cf1_7]
      repeat (simp only [h64, hq, h9, h12, ks_eq, ks_ss]; try dsimp only [kx_wp, kx_step, kx_lI, kx_lL, kx_lA, kx_gl, kx_pI, kx_pL, kx_pR, kx_pA, kx_pV, kx_s1, kx_s2, kx_sl, kx_pre, kx_c2, kx_pl, kx_cmp, kx_oF, kx_eqN, kx_nil, kx_c1, kx_ft, kx_aI, kx_aL, kx_aR, kx_ln, Nat.reduceAdd, Option.toList, List.cons_append, List.nil_append, cf1_2, cf9_12, cf1_7])
      repeat' apply And.intro
      all_goals try (first | with_reducible assumption | (with_reducible refine ck_nzI ?_; simp; done) | (with_reducible refine ck_nzL ?_; simp; done) | (with_reducible refine vp_in_nI ?_ ?_ <;> first | omega | decide) | (with_reducible refine Nat.le_of_ble_eq_true ?_; rfl) | omega | exact Or.inl trivial | exact Or.inr trivial | exact Or.inl rfl | exact Or.inr rfl)
      refine hC.2.1 95 _ _ _ _ _ _ _ _ _ _ _ _ _ _ _ _ _ lX10_95 (ct_X10_need l G (b := 1) (by decide)) rfl rfl (Nat.le_of_ble_eq_true rfl) (by first | decide | omega) (by decide) (by omega) (by omega) dX10_mend_20 ?_
      refine hB bX10_mend_23 _ _ _ _ _ _ _ kX10_mend_23 ?_
      dsimp only [bX10_mend_23, kx_wp, kx_step, kx_lI, kx_lL, kx_lA, kx_gl, kx_pI, kx_pL, kx_pR, kx_pA, kx_pV, kx_s1, kx_s2, kx_sl, kx_pre, kx_c2, kx_pl, kx_cmp, kx_oF, kx_eqN, kx_nil, kx_c1, kx_ft, kx_aI, kx_aL, kx_aR, kx_ln, Nat.reduceAdd, Option.toList, List.cons_append, List.nil_append, cf1_2, cf9_12, cf1_7]
      repeat (simp only [h64, hq, h9, h12, ks_eq, ks_ss]; try dsimp only [kx_wp, kx_step, kx_lI, kx_lL, kx_lA, kx_gl, kx_pI, kx_pL, kx_pR, kx_pA, kx_pV, kx_s1, kx_s2, kx_sl, kx_pre, kx_c2, kx_pl, kx_cmp, kx_oF, kx_eqN, kx_nil, kx_c1, kx_ft, kx_aI, kx_aL, kx_aR, kx_ln, Nat.reduceAdd, Option.toList, List.cons_append, List.nil_append, cf1_2, cf9_12, cf1_7])
      repeat' apply And.intro
      all_goals try (first | with_reducible assumption | (with_reducible refine ck_nzI ?_; simp; done) | (with_reducible refine ck_nzL ?_; simp; done) | (with_reducible refine vp_in_nI ?_ ?_ <;> first | omega | decide) | (with_reducible refine Nat.le_of_ble_eq_true ?_; rfl) | omega | exact Or.inl trivial | exact Or.inr trivial | exact Or.inl rfl | exact Or.inr rfl)
      · intro zc30
        first | exact absurd rfl zc30 | exact absurd zc30 (by decide) | exact absurd (by decide) zc30 | (exfalso; first | exact absurd zc7 (by decide) | exact absurd zc12 (by decide) | exact h12 (Decidable.not_not.mp zc30) | exact zc30 rfl) | (exfalso; simp_all; done)
      · intro zc30
        with_reducible first | have ze30 := Decidable.not_not.mp zc30 | have ze30 := zc30
        refine hB bX10_mend_33 _ _ _ _ _ _ _ kX10_mend_33 ?_
        dsimp only [bX10_mend_33, kx_wp, kx_step, kx_lI, kx_lL, kx_lA, kx_gl, kx_pI, kx_pL, kx_pR, kx_pA, kx_pV, kx_s1, kx_s2, kx_sl, kx_pre, kx_c2, kx_pl, kx_cmp, kx_oF, kx_eqN, kx_nil, kx_c1, kx_ft, kx_aI, kx_aL, kx_aR, kx_ln, Nat.reduceAdd, Option.toList, List.cons_append, List.nil_append, cf1_2, cf9_12, cf1_7]
        repeat (simp only [h64, hq, h9, h12, ks_eq, ks_ss]; try dsimp only [kx_wp, kx_step, kx_lI, kx_lL, kx_lA, kx_gl, kx_pI, kx_pL, kx_pR, kx_pA, kx_pV, kx_s1, kx_s2, kx_sl, kx_pre, kx_c2, kx_pl, kx_cmp, kx_oF, kx_eqN, kx_nil, kx_c1, kx_ft, kx_aI, kx_aL, kx_aR, kx_ln, Nat.reduceAdd, Option.toList, List.cons_append, List.nil_append, cf1_2, cf9_12, cf1_7])
        all_goals (repeat' apply And.intro)
        all_goals ((try clear hB hC); first | exact True.intro | with_reducible rfl | with_reducible assumption | (with_reducible refine vp_in_nI ?_ ?_ <;> first | omega | decide) | exact Nat.le_of_ble_eq_true rfl | (with_reducible refine ck_nzI ?_; simp; done) | (with_reducible refine ck_nzL ?_; simp; done) | (simp only [pk_us, pk_uLs, zc7, ze7, zc12, ze12, eq_true ze30, ↓reduceIte, not_true_eq_false, not_false_eq_true]; done) | (simp only [zc7, ze7, zc12, ze12, eq_true ze30, ↓reduceIte, not_true_eq_false, not_false_eq_true]; with_reducible rfl) | omega | skip)

set_option maxRecDepth 100000 in
set_option maxHeartbeats 4000000 in
theorem ct_X10_mend_z0 (l : Launch) (G : kx_G) {P : kx_P} {sz : Nat} {sv : Value} {K : Nat → Int32} (h64 : P 64 = kO 10 (kf (cr10 sv) K)) {cl : Nat} {cn : Nat → Nat} (h69 : P 69 = kR 8 (fun i => if i < cl then some (cn i) else none)) (h7 : K 7 = nI cl) (hcl : cl ≤ 8) {c : Nat} (hc : c < cl) {w : Nat} {V T Q Fo St Al Wm S C : Nat → Int32} {d : Int64} {h : Value} (H : cx_R P (cn c) w V T Q Fo St Al Wm) (hs : P (w + 5) = kI 0 64 S) (hq : P (cn c) = kO 1 (kf (cr1 (.ref w) d h) C)) (h12 : ¬ V 12 = 0) {wm : Nat} (h14 : V 14 = nI wm) (hwm : 1 ≤ wm ∧ wm ≤ 24) {a p : Nat} (hd : d = lN a) (ha : a < 86400000000) (h8 : C 8 = nI p) (hp : p < wm) {tr lf : Int32} (htr : (cx_fi (fun k => cx_sx T wm (a / 3600000000 + 1) ((p + k) % wm) (24) (0)) wm 0) = tr) (hlf : (cx_fi (fun k => cx_sx T wm (a / 3600000000 + 1) ((p + wm - k) % wm) (24) (0)) wm 0) = lf) (hz : tr = -1 ∨ lf = -1)  : kx_M l G sX10_mend 6 0 0 [.ref 64, .int (nI c), .int (0)] P sz (some (.int (-1))) P sz := by
  have h64c : 64 ≤ cn c := H.2.1
  have hne : ¬ cn c = w := by have := H.2.2.1; omega
  have h9 : P w = kO 9 (kf (cr9 w) V) := H.2.2.2.2.2.1
  have h9c : ∀ y, kx_set P (cn c) y w = kO 9 (kf (cr9 w) V) := fun y => (ks_ne (fun z => hne z.symm)).trans h9
  have hA : P 65 = kO 0 (kf cr0 Al) := H.2.2.2.2.2.2.2.2.2.2.1
  have hT : P (w + 1) = kI 0 24 T := H.2.2.2.2.2.2.1
  have hPW : cW P (cn c) w S d h C = P := by unfold cW; rw [ks_id hs, ks_id hq]
  have ha1 := ct_X1_actsToStep_t l G (sz := sz) H (S := S) (C := C) (h := h) h14 hwm hd ha h8 hp
  have ha2 := ct_X1_actsToStep_l l G (sz := sz) H (S := S) (C := C) (h := h) h14 hwm hd ha h8 hp
  rw [hPW, htr] at ha1
  rw [hPW, hlf] at ha2
  refine kx_mk kx_tab kxLok_X10 (ini := false) [some (.ref 64), some (.int (nI c)), some (.int (0)), none, none, none, none, none] ⟨by decide, rfl, by decide, by decide⟩ (⟨_, rfl⟩) rfl rfl (fun g hB hC => ?_)
  refine hB bX10_mend_0 _ _ _ _ _ _ _ kX10_mend_0 ?_
  dsimp only [bX10_mend_0, kx_wp, kx_step, kx_lI, kx_lL, kx_lA, kx_gl, kx_pI, kx_pL, kx_pR, kx_pA, kx_pV, kx_s1, kx_s2, kx_sl, kx_pre, kx_c2, kx_pl, kx_cmp, kx_oF, kx_eqN, kx_nil, kx_c1, kx_ft, kx_aI, kx_aL, kx_aR, kx_ln, Nat.reduceAdd, Option.toList, List.cons_append, List.nil_append, cf1_2, cf9_12, cf1_7]
  repeat (simp only [h64, hq, h9, ks_eq, ks_ss]; try dsimp only [kx_wp, kx_step, kx_lI, kx_lL, kx_lA, kx_gl, kx_pI, kx_pL, kx_pR, kx_pA, kx_pV, kx_s1, kx_s2, kx_sl, kx_pre, kx_c2, kx_pl, kx_cmp, kx_oF, kx_eqN, kx_nil, kx_c1, kx_ft, kx_aI, kx_aL, kx_aR, kx_ln, Nat.reduceAdd, Option.toList, List.cons_append, List.nil_append, cf1_2, cf9_12, cf1_7])
  repeat' apply And.intro
  all_goals try (first | with_reducible assumption | (with_reducible refine ck_nzI ?_; simp; done) | (with_reducible refine ck_nzL ?_; simp; done) | (with_reducible refine vp_in_nI ?_ ?_ <;> first | omega | decide) | (with_reducible refine Nat.le_of_ble_eq_true ?_; rfl) | omega | exact Or.inl trivial | exact Or.inr trivial | exact Or.inl rfl | exact Or.inr rfl)
  refine hC.1 138 _ _ _ _ _ _ _ 10 _ _ _ _ _ _ _ _ _ _ _ _ lX10_138 (ct_X10_theClock l G h64 h69 h7 hcl hc) ⟨by decide, rfl⟩ (h64) rfl rfl (Nat.le_of_ble_eq_true rfl) (by first | decide | omega) (by decide) (by omega) (by omega) dX10_mend_2 ?_
  refine hB bX10_mend_5 _ _ _ _ _ _ _ kX10_mend_5 ?_
  dsimp only [bX10_mend_5, kx_wp, kx_step, kx_lI, kx_lL, kx_lA, kx_gl, kx_pI, kx_pL, kx_pR, kx_pA, kx_pV, kx_s1, kx_s2, kx_sl, kx_pre, kx_c2, kx_pl, kx_cmp, kx_oF, kx_eqN, kx_nil, kx_c1, kx_ft, kx_aI, kx_aL, kx_aR, kx_ln, Nat.reduceAdd, Option.toList, List.cons_append, List.nil_append, cf1_2, cf9_12, cf1_7]
  repeat (simp only [h64, hq, h9, ks_eq, ks_ss]; try dsimp only [kx_wp, kx_step, kx_lI, kx_lL, kx_lA, kx_gl, kx_pI, kx_pL, kx_pR, kx_pA, kx_pV, kx_s1, kx_s2, kx_sl, kx_pre, kx_c2, kx_pl, kx_cmp, kx_oF, kx_eqN, kx_nil, kx_c1, kx_ft, kx_aI, kx_aL, kx_aR, kx_ln, Nat.reduceAdd, Option.toList, List.cons_append, List.nil_append, cf1_2, cf9_12, cf1_7])
  repeat' apply And.intro
  all_goals try (first | with_reducible assumption | (with_reducible refine ck_nzI ?_; simp; done) | (with_reducible refine ck_nzL ?_; simp; done) | (with_reducible refine vp_in_nI ?_ ?_ <;> first | omega | decide) | (with_reducible refine Nat.le_of_ble_eq_true ?_; rfl) | omega | exact Or.inl trivial | exact Or.inr trivial | exact Or.inl rfl | exact Or.inr rfl)
  · intro zc7
    first | exact absurd rfl zc7 | exact absurd zc7 (by decide) | exact absurd (by decide) zc7 | (exfalso; first | exact absurd zc7 (by decide) | exact absurd zc12 (by decide) | exact h12 (Decidable.not_not.mp zc30) | exact zc30 rfl) | (exfalso; simp_all; done)
  · intro zc7
    with_reducible first | have ze7 := Int32.not_lt.mp zc7 | have ze7 := zc7
    refine hB bX10_mend_10 _ _ _ _ _ _ _ kX10_mend_10 ?_
    dsimp only [bX10_mend_10, kx_wp, kx_step, kx_lI, kx_lL, kx_lA, kx_gl, kx_pI, kx_pL, kx_pR, kx_pA, kx_pV, kx_s1, kx_s2, kx_sl, kx_pre, kx_c2, kx_pl, kx_cmp, kx_oF, kx_eqN, kx_nil, kx_c1, kx_ft, kx_aI, kx_aL, kx_aR, kx_ln, Nat.reduceAdd, Option.toList, List.cons_append, List.nil_append, cf1_2, cf9_12, cf1_7]
    repeat (simp only [h64, hq, h9, ks_eq, ks_ss]; try dsimp only [kx_wp, kx_step, kx_lI, kx_lL, kx_lA, kx_gl, kx_pI, kx_pL, kx_pR, kx_pA, kx_pV, kx_s1, kx_s2, kx_sl, kx_pre, kx_c2, kx_pl, kx_cmp, kx_oF, kx_eqN, kx_nil, kx_c1, kx_ft, kx_aI, kx_aL, kx_aR, kx_ln, Nat.reduceAdd, Option.toList, List.cons_append, List.nil_append, cf1_2, cf9_12, cf1_7])
    repeat' apply And.intro
    all_goals try (first | with_reducible assumption | (with_reducible refine ck_nzI ?_; simp; done) | (with_reducible refine ck_nzL ?_; simp; done) | (with_reducible refine vp_in_nI ?_ ?_ <;> first | omega | decide) | (with_reducible refine Nat.le_of_ble_eq_true ?_; rfl) | omega | exact Or.inl trivial | exact Or.inr trivial | exact Or.inl rfl | exact Or.inr rfl)
    · intro zc12
      first | exact absurd rfl zc12 | exact absurd zc12 (by decide) | exact absurd (by decide) zc12 | (exfalso; first | exact absurd zc7 (by decide) | exact absurd zc12 (by decide) | exact h12 (Decidable.not_not.mp zc30) | exact zc30 rfl) | (exfalso; simp_all; done)
    · intro zc12
      with_reducible first | have ze12 := Int32.not_lt.mp zc12 | have ze12 := zc12
      refine hB bX10_mend_15 _ _ _ _ _ _ _ kX10_mend_15 ?_
      dsimp only [bX10_mend_15, kx_wp, kx_step, kx_lI, kx_lL, kx_lA, kx_gl, kx_pI, kx_pL, kx_pR, kx_pA, kx_pV, kx_s1, kx_s2, kx_sl, kx_pre, kx_c2, kx_pl, kx_cmp, kx_oF, kx_eqN, kx_nil, kx_c1, kx_ft, kx_aI, kx_aL, kx_aR, kx_ln, Nat.reduceAdd, Option.toList, List.cons_append, List.nil_append, cf1_2, cf9_12, cf1_7]
      repeat (simp only [h64, hq, h9, ks_eq, ks_ss]; try dsimp only [kx_wp, kx_step, kx_lI, kx_lL, kx_lA, kx_gl, kx_pI, kx_pL, kx_pR, kx_pA, kx_pV, kx_s1, kx_s2, kx_sl, kx_pre, kx_c2, kx_pl, kx_cmp, kx_oF, kx_eqN, kx_nil, kx_c1, kx_ft, kx_aI, kx_aL, kx_aR, kx_ln, Nat.reduceAdd, Option.toList, List.cons_append, List.nil_append, cf1_2, cf9_12, cf1_7])
      repeat' apply And.intro
      all_goals try (first | with_reducible assumption | (with_reducible refine ck_nzI ?_; simp; done) | (with_reducible refine ck_nzL ?_; simp; done) | (with_reducible refine vp_in_nI ?_ ?_ <;> first | omega | decide) | (with_reducible refine Nat.le_of_ble_eq_true ?_; rfl) | omega | exact Or.inl trivial | exact Or.inr trivial | exact Or.inl rfl | exact Or.inr rfl)
      refine hC.2.1 95 _ _ _ _ _ _ _ _ _ _ _ _ _ _ _ _ _ lX10_95 (ct_X10_need l G (b := 1) (by decide)) rfl rfl (Nat.le_of_ble_eq_true rfl) (by first | decide | omega) (by decide) (by omega) (by omega) dX10_mend_20 ?_
      refine hB bX10_mend_23 _ _ _ _ _ _ _ kX10_mend_23 ?_
      dsimp only [bX10_mend_23, kx_wp, kx_step, kx_lI, kx_lL, kx_lA, kx_gl, kx_pI, kx_pL, kx_pR, kx_pA, kx_pV, kx_s1, kx_s2, kx_sl, kx_pre, kx_c2, kx_pl, kx_cmp, kx_oF, kx_eqN, kx_nil, kx_c1, kx_ft, kx_aI, kx_aL, kx_aR, kx_ln, Nat.reduceAdd, Option.toList, List.cons_append, List.nil_append, cf1_2, cf9_12, cf1_7]
      repeat (simp only [h64, hq, h9, ks_eq, ks_ss]; try dsimp only [kx_wp, kx_step, kx_lI, kx_lL, kx_lA, kx_gl, kx_pI, kx_pL, kx_pR, kx_pA, kx_pV, kx_s1, kx_s2, kx_sl, kx_pre, kx_c2, kx_pl, kx_cmp, kx_oF, kx_eqN, kx_nil, kx_c1, kx_ft, kx_aI, kx_aL, kx_aR, kx_ln, Nat.reduceAdd, Option.toList, List.cons_append, List.nil_append, cf1_2, cf9_12, cf1_7])
      repeat' apply And.intro
      all_goals try (first | with_reducible assumption | (with_reducible refine ck_nzI ?_; simp; done) | (with_reducible refine ck_nzL ?_; simp; done) | (with_reducible refine vp_in_nI ?_ ?_ <;> first | omega | decide) | (with_reducible refine Nat.le_of_ble_eq_true ?_; rfl) | omega | exact Or.inl trivial | exact Or.inr trivial | exact Or.inl rfl | exact Or.inr rfl)
      · intro zc30
        have ze30 := zc30
        refine hB bX10_mend_35 _ _ _ _ _ _ _ kX10_mend_35 ?_
        dsimp only [bX10_mend_35, kx_wp, kx_step, kx_lI, kx_lL, kx_lA, kx_gl, kx_pI, kx_pL, kx_pR, kx_pA, kx_pV, kx_s1, kx_s2, kx_sl, kx_pre, kx_c2, kx_pl, kx_cmp, kx_oF, kx_eqN, kx_nil, kx_c1, kx_ft, kx_aI, kx_aL, kx_aR, kx_ln, Nat.reduceAdd, Option.toList, List.cons_append, List.nil_append, cf1_2, cf9_12, cf1_7]
        repeat (simp only [h64, hq, h9, ks_eq, ks_ss]; try dsimp only [kx_wp, kx_step, kx_lI, kx_lL, kx_lA, kx_gl, kx_pI, kx_pL, kx_pR, kx_pA, kx_pV, kx_s1, kx_s2, kx_sl, kx_pre, kx_c2, kx_pl, kx_cmp, kx_oF, kx_eqN, kx_nil, kx_c1, kx_ft, kx_aI, kx_aL, kx_aR, kx_ln, Nat.reduceAdd, Option.toList, List.cons_append, List.nil_append, cf1_2, cf9_12, cf1_7])
        repeat' apply And.intro
        all_goals try (first | with_reducible assumption | (with_reducible refine ck_nzI ?_; simp; done) | (with_reducible refine ck_nzL ?_; simp; done) | (with_reducible refine vp_in_nI ?_ ?_ <;> first | omega | decide) | (with_reducible refine Nat.le_of_ble_eq_true ?_; rfl) | omega | exact Or.inl trivial | exact Or.inr trivial | exact Or.inl rfl | exact Or.inr rfl)
        refine hC.1 227 _ _ _ _ _ _ _ 1 _ _ _ _ _ _ _ _ _ _ _ _ lX10_227 (ha1) ⟨by decide, rfl⟩ (hq) rfl rfl (Nat.le_of_ble_eq_true rfl) (by first | decide | omega) (by decide) (by omega) (by omega) dX10_mend_37 ?_
        refine hB bX10_mend_40 _ _ _ _ _ _ _ kX10_mend_40 ?_
        dsimp only [bX10_mend_40, kx_wp, kx_step, kx_lI, kx_lL, kx_lA, kx_gl, kx_pI, kx_pL, kx_pR, kx_pA, kx_pV, kx_s1, kx_s2, kx_sl, kx_pre, kx_c2, kx_pl, kx_cmp, kx_oF, kx_eqN, kx_nil, kx_c1, kx_ft, kx_aI, kx_aL, kx_aR, kx_ln, Nat.reduceAdd, Option.toList, List.cons_append, List.nil_append, cf1_2, cf9_12, cf1_7]
        repeat (simp only [h64, hq, h9, ks_eq, ks_ss]; try dsimp only [kx_wp, kx_step, kx_lI, kx_lL, kx_lA, kx_gl, kx_pI, kx_pL, kx_pR, kx_pA, kx_pV, kx_s1, kx_s2, kx_sl, kx_pre, kx_c2, kx_pl, kx_cmp, kx_oF, kx_eqN, kx_nil, kx_c1, kx_ft, kx_aI, kx_aL, kx_aR, kx_ln, Nat.reduceAdd, Option.toList, List.cons_append, List.nil_append, cf1_2, cf9_12, cf1_7])
        repeat' apply And.intro
        all_goals try (first | with_reducible assumption | (with_reducible refine ck_nzI ?_; simp; done) | (with_reducible refine ck_nzL ?_; simp; done) | (with_reducible refine vp_in_nI ?_ ?_ <;> first | omega | decide) | (with_reducible refine Nat.le_of_ble_eq_true ?_; rfl) | omega | exact Or.inl trivial | exact Or.inr trivial | exact Or.inl rfl | exact Or.inr rfl)
        refine hC.1 227 _ _ _ _ _ _ _ 1 _ _ _ _ _ _ _ _ _ _ _ _ lX10_227 (ha2) ⟨by decide, rfl⟩ (hq) rfl rfl (Nat.le_of_ble_eq_true rfl) (by first | decide | omega) (by decide) (by omega) (by omega) dX10_mend_44 ?_
        refine hB bX10_mend_47 _ _ _ _ _ _ _ kX10_mend_47 ?_
        dsimp only [bX10_mend_47, kx_wp, kx_step, kx_lI, kx_lL, kx_lA, kx_gl, kx_pI, kx_pL, kx_pR, kx_pA, kx_pV, kx_s1, kx_s2, kx_sl, kx_pre, kx_c2, kx_pl, kx_cmp, kx_oF, kx_eqN, kx_nil, kx_c1, kx_ft, kx_aI, kx_aL, kx_aR, kx_ln, Nat.reduceAdd, Option.toList, List.cons_append, List.nil_append, cf1_2, cf9_12, cf1_7]
        repeat (simp only [h64, hq, h9, ks_eq, ks_ss]; try dsimp only [kx_wp, kx_step, kx_lI, kx_lL, kx_lA, kx_gl, kx_pI, kx_pL, kx_pR, kx_pA, kx_pV, kx_s1, kx_s2, kx_sl, kx_pre, kx_c2, kx_pl, kx_cmp, kx_oF, kx_eqN, kx_nil, kx_c1, kx_ft, kx_aI, kx_aL, kx_aR, kx_ln, Nat.reduceAdd, Option.toList, List.cons_append, List.nil_append, cf1_2, cf9_12, cf1_7])
        repeat' apply And.intro
        all_goals try (first | with_reducible assumption | (with_reducible refine ck_nzI ?_; simp; done) | (with_reducible refine ck_nzL ?_; simp; done) | (with_reducible refine vp_in_nI ?_ ?_ <;> first | omega | decide) | (with_reducible refine Nat.le_of_ble_eq_true ?_; rfl) | omega | exact Or.inl trivial | exact Or.inr trivial | exact Or.inl rfl | exact Or.inr rfl)
        · intro zc52
          have ze52 := zc52
          refine hB bX10_mend_61 _ _ _ _ _ _ _ kX10_mend_61 ?_
          dsimp only [bX10_mend_61, kx_wp, kx_step, kx_lI, kx_lL, kx_lA, kx_gl, kx_pI, kx_pL, kx_pR, kx_pA, kx_pV, kx_s1, kx_s2, kx_sl, kx_pre, kx_c2, kx_pl, kx_cmp, kx_oF, kx_eqN, kx_nil, kx_c1, kx_ft, kx_aI, kx_aL, kx_aR, kx_ln, Nat.reduceAdd, Option.toList, List.cons_append, List.nil_append, cf1_2, cf9_12, cf1_7]
          repeat (simp only [h64, hq, h9, ks_eq, ks_ss]; try dsimp only [kx_wp, kx_step, kx_lI, kx_lL, kx_lA, kx_gl, kx_pI, kx_pL, kx_pR, kx_pA, kx_pV, kx_s1, kx_s2, kx_sl, kx_pre, kx_c2, kx_pl, kx_cmp, kx_oF, kx_eqN, kx_nil, kx_c1, kx_ft, kx_aI, kx_aL, kx_aR, kx_ln, Nat.reduceAdd, Option.toList, List.cons_append, List.nil_append, cf1_2, cf9_12, cf1_7])
          all_goals (repeat' apply And.intro)
          all_goals ((try clear hB hC); first | exact True.intro | with_reducible rfl | with_reducible assumption | (with_reducible refine vp_in_nI ?_ ?_ <;> first | omega | decide) | exact Nat.le_of_ble_eq_true rfl | (with_reducible refine ck_nzI ?_; simp; done) | (with_reducible refine ck_nzL ?_; simp; done) | (simp only [pk_us, pk_uLs, zc7, ze7, zc12, ze12, ze30, eq_true ze52, ↓reduceIte, not_true_eq_false, not_false_eq_true]; done) | (simp only [zc7, ze7, zc12, ze12, ze30, eq_true ze52, ↓reduceIte, not_true_eq_false, not_false_eq_true]; with_reducible rfl) | omega | skip)
        · intro zc52
          have ze52 := zc52
          refine hB bX10_mend_55 _ _ _ _ _ _ _ kX10_mend_55 ?_
          dsimp only [bX10_mend_55, kx_wp, kx_step, kx_lI, kx_lL, kx_lA, kx_gl, kx_pI, kx_pL, kx_pR, kx_pA, kx_pV, kx_s1, kx_s2, kx_sl, kx_pre, kx_c2, kx_pl, kx_cmp, kx_oF, kx_eqN, kx_nil, kx_c1, kx_ft, kx_aI, kx_aL, kx_aR, kx_ln, Nat.reduceAdd, Option.toList, List.cons_append, List.nil_append, cf1_2, cf9_12, cf1_7]
          repeat (simp only [h64, hq, h9, ks_eq, ks_ss]; try dsimp only [kx_wp, kx_step, kx_lI, kx_lL, kx_lA, kx_gl, kx_pI, kx_pL, kx_pR, kx_pA, kx_pV, kx_s1, kx_s2, kx_sl, kx_pre, kx_c2, kx_pl, kx_cmp, kx_oF, kx_eqN, kx_nil, kx_c1, kx_ft, kx_aI, kx_aL, kx_aR, kx_ln, Nat.reduceAdd, Option.toList, List.cons_append, List.nil_append, cf1_2, cf9_12, cf1_7])
          repeat' apply And.intro
          all_goals try (first | with_reducible assumption | (with_reducible refine ck_nzI ?_; simp; done) | (with_reducible refine ck_nzL ?_; simp; done) | (with_reducible refine vp_in_nI ?_ ?_ <;> first | omega | decide) | (with_reducible refine Nat.le_of_ble_eq_true ?_; rfl) | omega | exact Or.inl trivial | exact Or.inr trivial | exact Or.inl rfl | exact Or.inr rfl)
          · intro zc58
            have ze58 := zc58
            first | exact absurd (hz.resolve_left zc52) zc58 | exact absurd (hz.resolve_left zc52) (by assumption)
          · intro zc58
            with_reducible first | have ze58 := Decidable.not_not.mp zc58 | have ze58 := zc58
            refine hB bX10_mend_61 _ _ _ _ _ _ _ kX10_mend_61 ?_
            dsimp only [bX10_mend_61, kx_wp, kx_step, kx_lI, kx_lL, kx_lA, kx_gl, kx_pI, kx_pL, kx_pR, kx_pA, kx_pV, kx_s1, kx_s2, kx_sl, kx_pre, kx_c2, kx_pl, kx_cmp, kx_oF, kx_eqN, kx_nil, kx_c1, kx_ft, kx_aI, kx_aL, kx_aR, kx_ln, Nat.reduceAdd, Option.toList, List.cons_append, List.nil_append, cf1_2, cf9_12, cf1_7]
            repeat (simp only [h64, hq, h9, ks_eq, ks_ss]; try dsimp only [kx_wp, kx_step, kx_lI, kx_lL, kx_lA, kx_gl, kx_pI, kx_pL, kx_pR, kx_pA, kx_pV, kx_s1, kx_s2, kx_sl, kx_pre, kx_c2, kx_pl, kx_cmp, kx_oF, kx_eqN, kx_nil, kx_c1, kx_ft, kx_aI, kx_aL, kx_aR, kx_ln, Nat.reduceAdd, Option.toList, List.cons_append, List.nil_append, cf1_2, cf9_12, cf1_7])
            all_goals (repeat' apply And.intro)
            all_goals ((try clear hB hC); first | exact True.intro | with_reducible rfl | with_reducible assumption | (with_reducible refine vp_in_nI ?_ ?_ <;> first | omega | decide) | exact Nat.le_of_ble_eq_true rfl | (with_reducible refine ck_nzI ?_; simp; done) | (with_reducible refine ck_nzL ?_; simp; done) | (simp only [pk_us, pk_uLs, zc7, ze7, zc12, ze12, ze30, ze52, eq_true ze58, ↓reduceIte, not_true_eq_false, not_false_eq_true]; done) | (simp only [zc7, ze7, zc12, ze12, ze30, ze52, eq_true ze58, ↓reduceIte, not_true_eq_false, not_false_eq_true]; with_reducible rfl) | omega | skip)
      · intro zc30
        first | exact absurd rfl zc30 | exact absurd zc30 (by decide) | exact absurd (by decide) zc30 | (exfalso; first | exact absurd zc7 (by decide) | exact absurd zc12 (by decide) | exact h12 (Decidable.not_not.mp zc30) | exact zc30 rfl) | (exfalso; simp_all; done)

set_option maxRecDepth 100000 in
set_option maxHeartbeats 4000000 in
theorem ct_X10_mend_t0 (l : Launch) (G : kx_G) {P : kx_P} {sz : Nat} {sv : Value} {K : Nat → Int32} (h64 : P 64 = kO 10 (kf (cr10 sv) K)) {cl : Nat} {cn : Nat → Nat} (h69 : P 69 = kR 8 (fun i => if i < cl then some (cn i) else none)) (h7 : K 7 = nI cl) (hcl : cl ≤ 8) {c : Nat} (hc : c < cl) {w : Nat} {V T Q Fo St Al Wm S C : Nat → Int32} {d : Int64} {h : Value} (H : cx_R P (cn c) w V T Q Fo St Al Wm) (hs : P (w + 5) = kI 0 64 S) (hq : P (cn c) = kO 1 (kf (cr1 (.ref w) d h) C)) (h12 : ¬ V 12 = 0) {wm : Nat} (h14 : V 14 = nI wm) (hwm : 1 ≤ wm ∧ wm ≤ 24) {a p : Nat} (hd : d = lN a) (ha : a < 86400000000) (h8 : C 8 = nI p) (hp : p < wm) {a1 a2 : Nat} (htr : (cx_fi (fun k => cx_sx T wm (a / 3600000000 + 1) ((p + k) % wm) (24) (0)) wm 0) = nI a1) (hlf : (cx_fi (fun k => cx_sx T wm (a / 3600000000 + 1) ((p + wm - k) % wm) (24) (0)) wm 0) = nI a2) (ht24 : a1 ≤ 24) (hm1 : ¬ nI a1 = -1) (hm2 : ¬ nI a2 = -1)  : kx_M l G sX10_mend 6 0 0 [.ref 64, .int (nI c), .int (0)] P sz (some (.int (cx_md 0 (nI a1) (nI a2) (cx_ro T wm p a1) (C 7)))) P sz := by
  have h64c : 64 ≤ cn c := H.2.1
  have hne : ¬ cn c = w := by have := H.2.2.1; omega
  have h9 : P w = kO 9 (kf (cr9 w) V) := H.2.2.2.2.2.1
  have h9c : ∀ y, kx_set P (cn c) y w = kO 9 (kf (cr9 w) V) := fun y => (ks_ne (fun z => hne z.symm)).trans h9
  have hA : P 65 = kO 0 (kf cr0 Al) := H.2.2.2.2.2.2.2.2.2.2.1
  have hT : P (w + 1) = kI 0 24 T := H.2.2.2.2.2.2.1
  have hPW : cW P (cn c) w S d h C = P := by unfold cW; rw [ks_id hs, ks_id hq]
  have ha1 := ct_X1_actsToStep_t l G (sz := sz) H (S := S) (C := C) (h := h) h14 hwm hd ha h8 hp
  have ha2 := ct_X1_actsToStep_l l G (sz := sz) H (S := S) (C := C) (h := h) h14 hwm hd ha h8 hp
  rw [hPW, htr] at ha1
  rw [hPW, hlf] at ha2
  have hr9 := ct_X1_ringsOfTrips l G (sz := sz) H (S := S) (C := C) (d := d) (h := h) h14 hwm h8 hp ht24
  rw [hPW] at hr9
  refine kx_mk kx_tab kxLok_X10 (ini := false) [some (.ref 64), some (.int (nI c)), some (.int (0)), none, none, none, none, none] ⟨by decide, rfl, by decide, by decide⟩ (⟨_, rfl⟩) rfl rfl (fun g hB hC => ?_)
  refine hB bX10_mend_0 _ _ _ _ _ _ _ kX10_mend_0 ?_
  dsimp only [bX10_mend_0, kx_wp, kx_step, kx_lI, kx_lL, kx_lA, kx_gl, kx_pI, kx_pL, kx_pR, kx_pA, kx_pV, kx_s1, kx_s2, kx_sl, kx_pre, kx_c2, kx_pl, kx_cmp, kx_oF, kx_eqN, kx_nil, kx_c1, kx_ft, kx_aI, kx_aL, kx_aR, kx_ln, Nat.reduceAdd, Option.toList, List.cons_append, List.nil_append, cf1_2, cf9_12, cf1_7]
  repeat (simp only [h64, hq, h9, ks_eq, ks_ss]; try dsimp only [kx_wp, kx_step, kx_lI, kx_lL, kx_lA, kx_gl, kx_pI, kx_pL, kx_pR, kx_pA, kx_pV, kx_s1, kx_s2, kx_sl, kx_pre, kx_c2, kx_pl, kx_cmp, kx_oF, kx_eqN, kx_nil, kx_c1, kx_ft, kx_aI, kx_aL, kx_aR, kx_ln, Nat.reduceAdd, Option.toList, List.cons_append, List.nil_append, cf1_2, cf9_12, cf1_7])
  repeat' apply And.intro
  all_goals try (first | with_reducible assumption | (with_reducible refine ck_nzI ?_; simp; done) | (with_reducible refine ck_nzL ?_; simp; done) | (with_reducible refine vp_in_nI ?_ ?_ <;> first | omega | decide) | (with_reducible refine Nat.le_of_ble_eq_true ?_; rfl) | omega | exact Or.inl trivial | exact Or.inr trivial | exact Or.inl rfl | exact Or.inr rfl)
  refine hC.1 138 _ _ _ _ _ _ _ 10 _ _ _ _ _ _ _ _ _ _ _ _ lX10_138 (ct_X10_theClock l G h64 h69 h7 hcl hc) ⟨by decide, rfl⟩ (h64) rfl rfl (Nat.le_of_ble_eq_true rfl) (by first | decide | omega) (by decide) (by omega) (by omega) dX10_mend_2 ?_
  refine hB bX10_mend_5 _ _ _ _ _ _ _ kX10_mend_5 ?_
  dsimp only [bX10_mend_5, kx_wp, kx_step, kx_lI, kx_lL, kx_lA, kx_gl, kx_pI, kx_pL, kx_pR, kx_pA, kx_pV, kx_s1, kx_s2, kx_sl, kx_pre, kx_c2, kx_pl, kx_cmp, kx_oF, kx_eqN, kx_nil, kx_c1, kx_ft, kx_aI, kx_aL, kx_aR, kx_ln, Nat.reduceAdd, Option.toList, List.cons_append, List.nil_append, cf1_2, cf9_12, cf1_7]
  repeat (simp only [h64, hq, h9, ks_eq, ks_ss]; try dsimp only [kx_wp, kx_step, kx_lI, kx_lL, kx_lA, kx_gl, kx_pI, kx_pL, kx_pR, kx_pA, kx_pV, kx_s1, kx_s2, kx_sl, kx_pre, kx_c2, kx_pl, kx_cmp, kx_oF, kx_eqN, kx_nil, kx_c1, kx_ft, kx_aI, kx_aL, kx_aR, kx_ln, Nat.reduceAdd, Option.toList, List.cons_append, List.nil_append, cf1_2, cf9_12, cf1_7])
  repeat' apply And.intro
  all_goals try (first | with_reducible assumption | (with_reducible refine ck_nzI ?_; simp; done) | (with_reducible refine ck_nzL ?_; simp; done) | (with_reducible refine vp_in_nI ?_ ?_ <;> first | omega | decide) | (with_reducible refine Nat.le_of_ble_eq_true ?_; rfl) | omega | exact Or.inl trivial | exact Or.inr trivial | exact Or.inl rfl | exact Or.inr rfl)
  · intro zc7
    first | exact absurd rfl zc7 | exact absurd zc7 (by decide) | exact absurd (by decide) zc7 | (exfalso; first | exact absurd zc7 (by decide) | exact absurd zc12 (by decide) | exact h12 (Decidable.not_not.mp zc30) | exact zc30 rfl | exact hm1 zc52 | exact hm2 (Decidable.not_not.mp zc58) | exact zc101 rfl | exact absurd zc101 (by decide) | exact zc125 rfl | exact absurd zc125 (by decide)) | (exfalso; simp_all; done)
  · intro zc7
    with_reducible first | have ze7 := Int32.not_lt.mp zc7 | have ze7 := zc7
    refine hB bX10_mend_10 _ _ _ _ _ _ _ kX10_mend_10 ?_
    dsimp only [bX10_mend_10, kx_wp, kx_step, kx_lI, kx_lL, kx_lA, kx_gl, kx_pI, kx_pL, kx_pR, kx_pA, kx_pV, kx_s1, kx_s2, kx_sl, kx_pre, kx_c2, kx_pl, kx_cmp, kx_oF, kx_eqN, kx_nil, kx_c1, kx_ft, kx_aI, kx_aL, kx_aR, kx_ln, Nat.reduceAdd, Option.toList, List.cons_append, List.nil_append, cf1_2, cf9_12, cf1_7]
    repeat (simp only [h64, hq, h9, ks_eq, ks_ss]; try dsimp only [kx_wp, kx_step, kx_lI, kx_lL, kx_lA, kx_gl, kx_pI, kx_pL, kx_pR, kx_pA, kx_pV, kx_s1, kx_s2, kx_sl, kx_pre, kx_c2, kx_pl, kx_cmp, kx_oF, kx_eqN, kx_nil, kx_c1, kx_ft, kx_aI, kx_aL, kx_aR, kx_ln, Nat.reduceAdd, Option.toList, List.cons_append, List.nil_append, cf1_2, cf9_12, cf1_7])
    repeat' apply And.intro
    all_goals try (first | with_reducible assumption | (with_reducible refine ck_nzI ?_; simp; done) | (with_reducible refine ck_nzL ?_; simp; done) | (with_reducible refine vp_in_nI ?_ ?_ <;> first | omega | decide) | (with_reducible refine Nat.le_of_ble_eq_true ?_; rfl) | omega | exact Or.inl trivial | exact Or.inr trivial | exact Or.inl rfl | exact Or.inr rfl)
    · intro zc12
      first | exact absurd rfl zc12 | exact absurd zc12 (by decide) | exact absurd (by decide) zc12 | (exfalso; first | exact absurd zc7 (by decide) | exact absurd zc12 (by decide) | exact h12 (Decidable.not_not.mp zc30) | exact zc30 rfl | exact hm1 zc52 | exact hm2 (Decidable.not_not.mp zc58) | exact zc101 rfl | exact absurd zc101 (by decide) | exact zc125 rfl | exact absurd zc125 (by decide)) | (exfalso; simp_all; done)
    · intro zc12
      with_reducible first | have ze12 := Int32.not_lt.mp zc12 | have ze12 := zc12
      refine hB bX10_mend_15 _ _ _ _ _ _ _ kX10_mend_15 ?_
      dsimp only [bX10_mend_15, kx_wp, kx_step, kx_lI, kx_lL, kx_lA, kx_gl, kx_pI, kx_pL, kx_pR, kx_pA, kx_pV, kx_s1, kx_s2, kx_sl, kx_pre, kx_c2, kx_pl, kx_cmp, kx_oF, kx_eqN, kx_nil, kx_c1, kx_ft, kx_aI, kx_aL, kx_aR, kx_ln, Nat.reduceAdd, Option.toList, List.cons_append, List.nil_append, cf1_2, cf9_12, cf1_7]
      repeat (simp only [h64, hq, h9, ks_eq, ks_ss]; try dsimp only [kx_wp, kx_step, kx_lI, kx_lL, kx_lA, kx_gl, kx_pI, kx_pL, kx_pR, kx_pA, kx_pV, kx_s1, kx_s2, kx_sl, kx_pre, kx_c2, kx_pl, kx_cmp, kx_oF, kx_eqN, kx_nil, kx_c1, kx_ft, kx_aI, kx_aL, kx_aR, kx_ln, Nat.reduceAdd, Option.toList, List.cons_append, List.nil_append, cf1_2, cf9_12, cf1_7])
      repeat' apply And.intro
      all_goals try (first | with_reducible assumption | (with_reducible refine ck_nzI ?_; simp; done) | (with_reducible refine ck_nzL ?_; simp; done) | (with_reducible refine vp_in_nI ?_ ?_ <;> first | omega | decide) | (with_reducible refine Nat.le_of_ble_eq_true ?_; rfl) | omega | exact Or.inl trivial | exact Or.inr trivial | exact Or.inl rfl | exact Or.inr rfl)
      refine hC.2.1 95 _ _ _ _ _ _ _ _ _ _ _ _ _ _ _ _ _ lX10_95 (ct_X10_need l G (b := 1) (by decide)) rfl rfl (Nat.le_of_ble_eq_true rfl) (by first | decide | omega) (by decide) (by omega) (by omega) dX10_mend_20 ?_
      refine hB bX10_mend_23 _ _ _ _ _ _ _ kX10_mend_23 ?_
      dsimp only [bX10_mend_23, kx_wp, kx_step, kx_lI, kx_lL, kx_lA, kx_gl, kx_pI, kx_pL, kx_pR, kx_pA, kx_pV, kx_s1, kx_s2, kx_sl, kx_pre, kx_c2, kx_pl, kx_cmp, kx_oF, kx_eqN, kx_nil, kx_c1, kx_ft, kx_aI, kx_aL, kx_aR, kx_ln, Nat.reduceAdd, Option.toList, List.cons_append, List.nil_append, cf1_2, cf9_12, cf1_7]
      repeat (simp only [h64, hq, h9, ks_eq, ks_ss]; try dsimp only [kx_wp, kx_step, kx_lI, kx_lL, kx_lA, kx_gl, kx_pI, kx_pL, kx_pR, kx_pA, kx_pV, kx_s1, kx_s2, kx_sl, kx_pre, kx_c2, kx_pl, kx_cmp, kx_oF, kx_eqN, kx_nil, kx_c1, kx_ft, kx_aI, kx_aL, kx_aR, kx_ln, Nat.reduceAdd, Option.toList, List.cons_append, List.nil_append, cf1_2, cf9_12, cf1_7])
      repeat' apply And.intro
      all_goals try (first | with_reducible assumption | (with_reducible refine ck_nzI ?_; simp; done) | (with_reducible refine ck_nzL ?_; simp; done) | (with_reducible refine vp_in_nI ?_ ?_ <;> first | omega | decide) | (with_reducible refine Nat.le_of_ble_eq_true ?_; rfl) | omega | exact Or.inl trivial | exact Or.inr trivial | exact Or.inl rfl | exact Or.inr rfl)
      · intro zc30
        have ze30 := zc30
        refine hB bX10_mend_35 _ _ _ _ _ _ _ kX10_mend_35 ?_
        dsimp only [bX10_mend_35, kx_wp, kx_step, kx_lI, kx_lL, kx_lA, kx_gl, kx_pI, kx_pL, kx_pR, kx_pA, kx_pV, kx_s1, kx_s2, kx_sl, kx_pre, kx_c2, kx_pl, kx_cmp, kx_oF, kx_eqN, kx_nil, kx_c1, kx_ft, kx_aI, kx_aL, kx_aR, kx_ln, Nat.reduceAdd, Option.toList, List.cons_append, List.nil_append, cf1_2, cf9_12, cf1_7]
        repeat (simp only [h64, hq, h9, ks_eq, ks_ss]; try dsimp only [kx_wp, kx_step, kx_lI, kx_lL, kx_lA, kx_gl, kx_pI, kx_pL, kx_pR, kx_pA, kx_pV, kx_s1, kx_s2, kx_sl, kx_pre, kx_c2, kx_pl, kx_cmp, kx_oF, kx_eqN, kx_nil, kx_c1, kx_ft, kx_aI, kx_aL, kx_aR, kx_ln, Nat.reduceAdd, Option.toList, List.cons_append, List.nil_append, cf1_2, cf9_12, cf1_7])
        repeat' apply And.intro
        all_goals try (first | with_reducible assumption | (with_reducible refine ck_nzI ?_; simp; done) | (with_reducible refine ck_nzL ?_; simp; done) | (with_reducible refine vp_in_nI ?_ ?_ <;> first | omega | decide) | (with_reducible refine Nat.le_of_ble_eq_true ?_; rfl) | omega | exact Or.inl trivial | exact Or.inr trivial | exact Or.inl rfl | exact Or.inr rfl)
        refine hC.1 227 _ _ _ _ _ _ _ 1 _ _ _ _ _ _ _ _ _ _ _ _ lX10_227 (ha1) ⟨by decide, rfl⟩ (hq) rfl rfl (Nat.le_of_ble_eq_true rfl) (by first | decide | omega) (by decide) (by omega) (by omega) dX10_mend_37 ?_
        refine hB bX10_mend_40 _ _ _ _ _ _ _ kX10_mend_40 ?_
        dsimp only [bX10_mend_40, kx_wp, kx_step, kx_lI, kx_lL, kx_lA, kx_gl, kx_pI, kx_pL, kx_pR, kx_pA, kx_pV, kx_s1, kx_s2, kx_sl, kx_pre, kx_c2, kx_pl, kx_cmp, kx_oF, kx_eqN, kx_nil, kx_c1, kx_ft, kx_aI, kx_aL, kx_aR, kx_ln, Nat.reduceAdd, Option.toList, List.cons_append, List.nil_append, cf1_2, cf9_12, cf1_7]
        repeat (simp only [h64, hq, h9, ks_eq, ks_ss]; try dsimp only [kx_wp, kx_step, kx_lI, kx_lL, kx_lA, kx_gl, kx_pI, kx_pL, kx_pR, kx_pA, kx_pV, kx_s1, kx_s2, kx_sl, kx_pre, kx_c2, kx_pl, kx_cmp, kx_oF, kx_eqN, kx_nil, kx_c1, kx_ft, kx_aI, kx_aL, kx_aR, kx_ln, Nat.reduceAdd, Option.toList, List.cons_append, List.nil_append, cf1_2, cf9_12, cf1_7])
        repeat' apply And.intro
        all_goals try (first | with_reducible assumption | (with_reducible refine ck_nzI ?_; simp; done) | (with_reducible refine ck_nzL ?_; simp; done) | (with_reducible refine vp_in_nI ?_ ?_ <;> first | omega | decide) | (with_reducible refine Nat.le_of_ble_eq_true ?_; rfl) | omega | exact Or.inl trivial | exact Or.inr trivial | exact Or.inl rfl | exact Or.inr rfl)
        refine hC.1 227 _ _ _ _ _ _ _ 1 _ _ _ _ _ _ _ _ _ _ _ _ lX10_227 (ha2) ⟨by decide, rfl⟩ (hq) rfl rfl (Nat.le_of_ble_eq_true rfl) (by first | decide | omega) (by decide) (by omega) (by omega) dX10_mend_44 ?_
        refine hB bX10_mend_47 _ _ _ _ _ _ _ kX10_mend_47 ?_
        dsimp only [bX10_mend_47, kx_wp, kx_step, kx_lI, kx_lL, kx_lA, kx_gl, kx_pI, kx_pL, kx_pR, kx_pA, kx_pV, kx_s1, kx_s2, kx_sl, kx_pre, kx_c2, kx_pl, kx_cmp, kx_oF, kx_eqN, kx_nil, kx_c1, kx_ft, kx_aI, kx_aL, kx_aR, kx_ln, Nat.reduceAdd, Option.toList, List.cons_append, List.nil_append, cf1_2, cf9_12, cf1_7]
        repeat (simp only [h64, hq, h9, ks_eq, ks_ss]; try dsimp only [kx_wp, kx_step, kx_lI, kx_lL, kx_lA, kx_gl, kx_pI, kx_pL, kx_pR, kx_pA, kx_pV, kx_s1, kx_s2, kx_sl, kx_pre, kx_c2, kx_pl, kx_cmp, kx_oF, kx_eqN, kx_nil, kx_c1, kx_ft, kx_aI, kx_aL, kx_aR, kx_ln, Nat.reduceAdd, Option.toList, List.cons_append, List.nil_append, cf1_2, cf9_12, cf1_7])
        repeat' apply And.intro
        all_goals try (first | with_reducible assumption | (with_reducible refine ck_nzI ?_; simp; done) | (with_reducible refine ck_nzL ?_; simp; done) | (with_reducible refine vp_in_nI ?_ ?_ <;> first | omega | decide) | (with_reducible refine Nat.le_of_ble_eq_true ?_; rfl) | omega | exact Or.inl trivial | exact Or.inr trivial | exact Or.inl rfl | exact Or.inr rfl)
        · intro zc52
          first | exact absurd rfl zc52 | exact absurd zc52 (by decide) | exact absurd (by decide) zc52 | (exfalso; first | exact absurd zc7 (by decide) | exact absurd zc12 (by decide) | exact h12 (Decidable.not_not.mp zc30) | exact zc30 rfl | exact hm1 zc52 | exact hm2 (Decidable.not_not.mp zc58) | exact zc101 rfl | exact absurd zc101 (by decide) | exact zc125 rfl | exact absurd zc125 (by decide)) | (exfalso; simp_all; done)
        · intro zc52
          have ze52 := zc52
          refine hB bX10_mend_55 _ _ _ _ _ _ _ kX10_mend_55 ?_
          dsimp only [bX10_mend_55, kx_wp, kx_step, kx_lI, kx_lL, kx_lA, kx_gl, kx_pI, kx_pL, kx_pR, kx_pA, kx_pV, kx_s1, kx_s2, kx_sl, kx_pre, kx_c2, kx_pl, kx_cmp, kx_oF, kx_eqN, kx_nil, kx_c1, kx_ft, kx_aI, kx_aL, kx_aR, kx_ln, Nat.reduceAdd, Option.toList, List.cons_append, List.nil_append, cf1_2, cf9_12, cf1_7]
          repeat (simp only [h64, hq, h9, ks_eq, ks_ss]; try dsimp only [kx_wp, kx_step, kx_lI, kx_lL, kx_lA, kx_gl, kx_pI, kx_pL, kx_pR, kx_pA, kx_pV, kx_s1, kx_s2, kx_sl, kx_pre, kx_c2, kx_pl, kx_cmp, kx_oF, kx_eqN, kx_nil, kx_c1, kx_ft, kx_aI, kx_aL, kx_aR, kx_ln, Nat.reduceAdd, Option.toList, List.cons_append, List.nil_append, cf1_2, cf9_12, cf1_7])
          repeat' apply And.intro
          all_goals try (first | with_reducible assumption | (with_reducible refine ck_nzI ?_; simp; done) | (with_reducible refine ck_nzL ?_; simp; done) | (with_reducible refine vp_in_nI ?_ ?_ <;> first | omega | decide) | (with_reducible refine Nat.le_of_ble_eq_true ?_; rfl) | omega | exact Or.inl trivial | exact Or.inr trivial | exact Or.inl rfl | exact Or.inr rfl)
          · intro zc58
            have ze58 := zc58
            refine hB bX10_mend_63 _ _ _ _ _ _ _ kX10_mend_63 ?_
            dsimp only [bX10_mend_63, kx_wp, kx_step, kx_lI, kx_lL, kx_lA, kx_gl, kx_pI, kx_pL, kx_pR, kx_pA, kx_pV, kx_s1, kx_s2, kx_sl, kx_pre, kx_c2, kx_pl, kx_cmp, kx_oF, kx_eqN, kx_nil, kx_c1, kx_ft, kx_aI, kx_aL, kx_aR, kx_ln, Nat.reduceAdd, Option.toList, List.cons_append, List.nil_append, cf1_2, cf9_12, cf1_7]
            repeat (simp only [h64, hq, h9, ks_eq, ks_ss]; try dsimp only [kx_wp, kx_step, kx_lI, kx_lL, kx_lA, kx_gl, kx_pI, kx_pL, kx_pR, kx_pA, kx_pV, kx_s1, kx_s2, kx_sl, kx_pre, kx_c2, kx_pl, kx_cmp, kx_oF, kx_eqN, kx_nil, kx_c1, kx_ft, kx_aI, kx_aL, kx_aR, kx_ln, Nat.reduceAdd, Option.toList, List.cons_append, List.nil_append, cf1_2, cf9_12, cf1_7])
            repeat' apply And.intro
            all_goals try (first | with_reducible assumption | (with_reducible refine ck_nzI ?_; simp; done) | (with_reducible refine ck_nzL ?_; simp; done) | (with_reducible refine vp_in_nI ?_ ?_ <;> first | omega | decide) | (with_reducible refine Nat.le_of_ble_eq_true ?_; rfl) | omega | exact Or.inl trivial | exact Or.inr trivial | exact Or.inl rfl | exact Or.inr rfl)
            refine hC.1 230 _ _ _ _ _ _ _ 1 _ _ _ _ _ _ _ _ _ _ _ _ lX10_230 (hr9) ⟨by decide, rfl⟩ (hq) rfl rfl (Nat.le_of_ble_eq_true rfl) (by first | decide | omega) (by decide) (by omega) (by omega) dX10_mend_66 ?_
            refine hB bX10_mend_69 _ _ _ _ _ _ _ kX10_mend_69 ?_
            dsimp only [bX10_mend_69, kx_wp, kx_step, kx_lI, kx_lL, kx_lA, kx_gl, kx_pI, kx_pL, kx_pR, kx_pA, kx_pV, kx_s1, kx_s2, kx_sl, kx_pre, kx_c2, kx_pl, kx_cmp, kx_oF, kx_eqN, kx_nil, kx_c1, kx_ft, kx_aI, kx_aL, kx_aR, kx_ln, Nat.reduceAdd, Option.toList, List.cons_append, List.nil_append, cf1_2, cf9_12, cf1_7]
            repeat (simp only [h64, hq, h9, ks_eq, ks_ss]; try dsimp only [kx_wp, kx_step, kx_lI, kx_lL, kx_lA, kx_gl, kx_pI, kx_pL, kx_pR, kx_pA, kx_pV, kx_s1, kx_s2, kx_sl, kx_pre, kx_c2, kx_pl, kx_cmp, kx_oF, kx_eqN, kx_nil, kx_c1, kx_ft, kx_aI, kx_aL, kx_aR, kx_ln, Nat.reduceAdd, Option.toList, List.cons_append, List.nil_append, cf1_2, cf9_12, cf1_7])
            repeat' apply And.intro
            all_goals try (first | with_reducible assumption | (with_reducible refine ck_nzI ?_; simp; done) | (with_reducible refine ck_nzL ?_; simp; done) | (with_reducible refine vp_in_nI ?_ ?_ <;> first | omega | decide) | (with_reducible refine Nat.le_of_ble_eq_true ?_; rfl) | omega | exact Or.inl trivial | exact Or.inr trivial | exact Or.inl rfl | exact Or.inr rfl)
            · intro zc77
              with_reducible first | have ze77 := Int32.not_le.mpr zc77 | have ze77 := zc77
              refine hB bX10_mend_93 _ _ _ _ _ _ _ kX10_mend_93 ?_
              dsimp only [bX10_mend_93, kx_wp, kx_step, kx_lI, kx_lL, kx_lA, kx_gl, kx_pI, kx_pL, kx_pR, kx_pA, kx_pV, kx_s1, kx_s2, kx_sl, kx_pre, kx_c2, kx_pl, kx_cmp, kx_oF, kx_eqN, kx_nil, kx_c1, kx_ft, kx_aI, kx_aL, kx_aR, kx_ln, Nat.reduceAdd, Option.toList, List.cons_append, List.nil_append, cf1_2, cf9_12, cf1_7]
              repeat (simp only [h64, hq, h9, ks_eq, ks_ss]; try dsimp only [kx_wp, kx_step, kx_lI, kx_lL, kx_lA, kx_gl, kx_pI, kx_pL, kx_pR, kx_pA, kx_pV, kx_s1, kx_s2, kx_sl, kx_pre, kx_c2, kx_pl, kx_cmp, kx_oF, kx_eqN, kx_nil, kx_c1, kx_ft, kx_aI, kx_aL, kx_aR, kx_ln, Nat.reduceAdd, Option.toList, List.cons_append, List.nil_append, cf1_2, cf9_12, cf1_7])
              repeat' apply And.intro
              all_goals try (first | with_reducible assumption | (with_reducible refine ck_nzI ?_; simp; done) | (with_reducible refine ck_nzL ?_; simp; done) | (with_reducible refine vp_in_nI ?_ ?_ <;> first | omega | decide) | (with_reducible refine Nat.le_of_ble_eq_true ?_; rfl) | omega | exact Or.inl trivial | exact Or.inr trivial | exact Or.inl rfl | exact Or.inr rfl)
              refine hB bX10_mend_98 _ _ _ _ _ _ _ kX10_mend_98 ?_
              dsimp only [bX10_mend_98, kx_wp, kx_step, kx_lI, kx_lL, kx_lA, kx_gl, kx_pI, kx_pL, kx_pR, kx_pA, kx_pV, kx_s1, kx_s2, kx_sl, kx_pre, kx_c2, kx_pl, kx_cmp, kx_oF, kx_eqN, kx_nil, kx_c1, kx_ft, kx_aI, kx_aL, kx_aR, kx_ln, Nat.reduceAdd, Option.toList, List.cons_append, List.nil_append, cf1_2, cf9_12, cf1_7]
              repeat (simp only [h64, hq, h9, ks_eq, ks_ss]; try dsimp only [kx_wp, kx_step, kx_lI, kx_lL, kx_lA, kx_gl, kx_pI, kx_pL, kx_pR, kx_pA, kx_pV, kx_s1, kx_s2, kx_sl, kx_pre, kx_c2, kx_pl, kx_cmp, kx_oF, kx_eqN, kx_nil, kx_c1, kx_ft, kx_aI, kx_aL, kx_aR, kx_ln, Nat.reduceAdd, Option.toList, List.cons_append, List.nil_append, cf1_2, cf9_12, cf1_7])
              repeat' apply And.intro
              all_goals try (first | with_reducible assumption | (with_reducible refine ck_nzI ?_; simp; done) | (with_reducible refine ck_nzL ?_; simp; done) | (with_reducible refine vp_in_nI ?_ ?_ <;> first | omega | decide) | (with_reducible refine Nat.le_of_ble_eq_true ?_; rfl) | omega | exact Or.inl trivial | exact Or.inr trivial | exact Or.inl rfl | exact Or.inr rfl)
              · intro zc101
                first | exact absurd rfl zc101 | exact absurd zc101 (by decide) | exact absurd (by decide) zc101 | (exfalso; first | exact absurd zc7 (by decide) | exact absurd zc12 (by decide) | exact h12 (Decidable.not_not.mp zc30) | exact zc30 rfl | exact hm1 zc52 | exact hm2 (Decidable.not_not.mp zc58) | exact zc101 rfl | exact absurd zc101 (by decide) | exact zc125 rfl | exact absurd zc125 (by decide)) | (exfalso; simp_all; done)
              · intro zc101
                with_reducible first | have ze101 := Decidable.not_not.mp zc101 | have ze101 := zc101
                refine hB bX10_mend_104 _ _ _ _ _ _ _ kX10_mend_104 ?_
                dsimp only [bX10_mend_104, kx_wp, kx_step, kx_lI, kx_lL, kx_lA, kx_gl, kx_pI, kx_pL, kx_pR, kx_pA, kx_pV, kx_s1, kx_s2, kx_sl, kx_pre, kx_c2, kx_pl, kx_cmp, kx_oF, kx_eqN, kx_nil, kx_c1, kx_ft, kx_aI, kx_aL, kx_aR, kx_ln, Nat.reduceAdd, Option.toList, List.cons_append, List.nil_append, cf1_2, cf9_12, cf1_7]
                repeat (simp only [h64, hq, h9, ks_eq, ks_ss]; try dsimp only [kx_wp, kx_step, kx_lI, kx_lL, kx_lA, kx_gl, kx_pI, kx_pL, kx_pR, kx_pA, kx_pV, kx_s1, kx_s2, kx_sl, kx_pre, kx_c2, kx_pl, kx_cmp, kx_oF, kx_eqN, kx_nil, kx_c1, kx_ft, kx_aI, kx_aL, kx_aR, kx_ln, Nat.reduceAdd, Option.toList, List.cons_append, List.nil_append, cf1_2, cf9_12, cf1_7])
                repeat' apply And.intro
                all_goals try (first | with_reducible assumption | (with_reducible refine ck_nzI ?_; simp; done) | (with_reducible refine ck_nzL ?_; simp; done) | (with_reducible refine vp_in_nI ?_ ?_ <;> first | omega | decide) | (with_reducible refine Nat.le_of_ble_eq_true ?_; rfl) | omega | exact Or.inl trivial | exact Or.inr trivial | exact Or.inl rfl | exact Or.inr rfl)
                · intro zc106
                  have ze106 := zc106
                  refine hB bX10_mend_117 _ _ _ _ _ _ _ kX10_mend_117 ?_
                  dsimp only [bX10_mend_117, kx_wp, kx_step, kx_lI, kx_lL, kx_lA, kx_gl, kx_pI, kx_pL, kx_pR, kx_pA, kx_pV, kx_s1, kx_s2, kx_sl, kx_pre, kx_c2, kx_pl, kx_cmp, kx_oF, kx_eqN, kx_nil, kx_c1, kx_ft, kx_aI, kx_aL, kx_aR, kx_ln, Nat.reduceAdd, Option.toList, List.cons_append, List.nil_append, cf1_2, cf9_12, cf1_7]
                  repeat (simp only [h64, hq, h9, ks_eq, ks_ss]; try dsimp only [kx_wp, kx_step, kx_lI, kx_lL, kx_lA, kx_gl, kx_pI, kx_pL, kx_pR, kx_pA, kx_pV, kx_s1, kx_s2, kx_sl, kx_pre, kx_c2, kx_pl, kx_cmp, kx_oF, kx_eqN, kx_nil, kx_c1, kx_ft, kx_aI, kx_aL, kx_aR, kx_ln, Nat.reduceAdd, Option.toList, List.cons_append, List.nil_append, cf1_2, cf9_12, cf1_7])
                  repeat' apply And.intro
                  all_goals try (first | with_reducible assumption | (with_reducible refine ck_nzI ?_; simp; done) | (with_reducible refine ck_nzL ?_; simp; done) | (with_reducible refine vp_in_nI ?_ ?_ <;> first | omega | decide) | (with_reducible refine Nat.le_of_ble_eq_true ?_; rfl) | omega | exact Or.inl trivial | exact Or.inr trivial | exact Or.inl rfl | exact Or.inr rfl)
                  refine hB bX10_mend_122 _ _ _ _ _ _ _ kX10_mend_122 ?_
                  dsimp only [bX10_mend_122, kx_wp, kx_step, kx_lI, kx_lL, kx_lA, kx_gl, kx_pI, kx_pL, kx_pR, kx_pA, kx_pV, kx_s1, kx_s2, kx_sl, kx_pre, kx_c2, kx_pl, kx_cmp, kx_oF, kx_eqN, kx_nil, kx_c1, kx_ft, kx_aI, kx_aL, kx_aR, kx_ln, Nat.reduceAdd, Option.toList, List.cons_append, List.nil_append, cf1_2, cf9_12, cf1_7]
                  repeat (simp only [h64, hq, h9, ks_eq, ks_ss]; try dsimp only [kx_wp, kx_step, kx_lI, kx_lL, kx_lA, kx_gl, kx_pI, kx_pL, kx_pR, kx_pA, kx_pV, kx_s1, kx_s2, kx_sl, kx_pre, kx_c2, kx_pl, kx_cmp, kx_oF, kx_eqN, kx_nil, kx_c1, kx_ft, kx_aI, kx_aL, kx_aR, kx_ln, Nat.reduceAdd, Option.toList, List.cons_append, List.nil_append, cf1_2, cf9_12, cf1_7])
                  all_goals (repeat' apply And.intro)
                  all_goals ((try clear hB hC); first | exact True.intro | first | exact absurd zc106 (by decide) | exact absurd rfl zc106 | exact absurd zc130 (by decide) | exact absurd rfl zc130 | exact absurd zc143 (by decide) | exact absurd rfl zc143 | exact absurd zc101 (by decide) | exact absurd rfl zc101 | exact absurd zc125 (by decide) | exact absurd rfl zc125 | (simp only [cx_md, zc7, ze7, zc12, ze12, ze30, ze52, ze58, zc77, ze77, eq_true ze101, eq_true ze106, ↓reduceIte, Nat.reduceEqDiff, OfNat.ofNat_ne_zero, OfNat.ofNat_ne_one, Nat.succ_ne_zero]; done) | (simp only [cx_md, zc7, ze7, zc12, ze12, ze30, ze52, ze58, zc77, ze77, eq_true ze101, eq_true ze106, ↓reduceIte]; done) | (simp only [cx_md, zc7, ze7, zc12, ze12, ze30, ze52, ze58, zc77, ze77, eq_true ze101, eq_true ze106, ↓reduceIte]; rfl) | (unfold cx_md; simp only [zc7, ze7, zc12, ze12, ze30, ze52, ze58, zc77, ze77, eq_true ze101, eq_true ze106, ↓reduceIte]; rfl))
                · intro zc106
                  have ze106 := zc106
                  refine hB bX10_mend_109 _ _ _ _ _ _ _ kX10_mend_109 ?_
                  dsimp only [bX10_mend_109, kx_wp, kx_step, kx_lI, kx_lL, kx_lA, kx_gl, kx_pI, kx_pL, kx_pR, kx_pA, kx_pV, kx_s1, kx_s2, kx_sl, kx_pre, kx_c2, kx_pl, kx_cmp, kx_oF, kx_eqN, kx_nil, kx_c1, kx_ft, kx_aI, kx_aL, kx_aR, kx_ln, Nat.reduceAdd, Option.toList, List.cons_append, List.nil_append, cf1_2, cf9_12, cf1_7]
                  repeat (simp only [h64, hq, h9, ks_eq, ks_ss]; try dsimp only [kx_wp, kx_step, kx_lI, kx_lL, kx_lA, kx_gl, kx_pI, kx_pL, kx_pR, kx_pA, kx_pV, kx_s1, kx_s2, kx_sl, kx_pre, kx_c2, kx_pl, kx_cmp, kx_oF, kx_eqN, kx_nil, kx_c1, kx_ft, kx_aI, kx_aL, kx_aR, kx_ln, Nat.reduceAdd, Option.toList, List.cons_append, List.nil_append, cf1_2, cf9_12, cf1_7])
                  repeat' apply And.intro
                  all_goals try (first | with_reducible assumption | (with_reducible refine ck_nzI ?_; simp; done) | (with_reducible refine ck_nzL ?_; simp; done) | (with_reducible refine vp_in_nI ?_ ?_ <;> first | omega | decide) | (with_reducible refine Nat.le_of_ble_eq_true ?_; rfl) | omega | exact Or.inl trivial | exact Or.inr trivial | exact Or.inl rfl | exact Or.inr rfl)
                  refine hB bX10_mend_122 _ _ _ _ _ _ _ kX10_mend_122 ?_
                  dsimp only [bX10_mend_122, kx_wp, kx_step, kx_lI, kx_lL, kx_lA, kx_gl, kx_pI, kx_pL, kx_pR, kx_pA, kx_pV, kx_s1, kx_s2, kx_sl, kx_pre, kx_c2, kx_pl, kx_cmp, kx_oF, kx_eqN, kx_nil, kx_c1, kx_ft, kx_aI, kx_aL, kx_aR, kx_ln, Nat.reduceAdd, Option.toList, List.cons_append, List.nil_append, cf1_2, cf9_12, cf1_7]
                  repeat (simp only [h64, hq, h9, ks_eq, ks_ss]; try dsimp only [kx_wp, kx_step, kx_lI, kx_lL, kx_lA, kx_gl, kx_pI, kx_pL, kx_pR, kx_pA, kx_pV, kx_s1, kx_s2, kx_sl, kx_pre, kx_c2, kx_pl, kx_cmp, kx_oF, kx_eqN, kx_nil, kx_c1, kx_ft, kx_aI, kx_aL, kx_aR, kx_ln, Nat.reduceAdd, Option.toList, List.cons_append, List.nil_append, cf1_2, cf9_12, cf1_7])
                  all_goals (repeat' apply And.intro)
                  all_goals ((try clear hB hC); first | exact True.intro | first | exact absurd zc106 (by decide) | exact absurd rfl zc106 | exact absurd zc130 (by decide) | exact absurd rfl zc130 | exact absurd zc143 (by decide) | exact absurd rfl zc143 | exact absurd zc101 (by decide) | exact absurd rfl zc101 | exact absurd zc125 (by decide) | exact absurd rfl zc125 | (simp only [cx_md, zc7, ze7, zc12, ze12, ze30, ze52, ze58, zc77, ze77, eq_true ze101, ze106, ↓reduceIte, Nat.reduceEqDiff, OfNat.ofNat_ne_zero, OfNat.ofNat_ne_one, Nat.succ_ne_zero]; done) | (simp only [cx_md, zc7, ze7, zc12, ze12, ze30, ze52, ze58, zc77, ze77, eq_true ze101, ze106, ↓reduceIte]; done) | (simp only [cx_md, zc7, ze7, zc12, ze12, ze30, ze52, ze58, zc77, ze77, eq_true ze101, ze106, ↓reduceIte]; rfl) | (unfold cx_md; simp only [zc7, ze7, zc12, ze12, ze30, ze52, ze58, zc77, ze77, eq_true ze101, ze106, ↓reduceIte]; rfl))
            · intro zc77
              with_reducible first | have ze77 := Int32.not_lt.mp zc77 | have ze77 := zc77
              refine hB bX10_mend_80 _ _ _ _ _ _ _ kX10_mend_80 ?_
              dsimp only [bX10_mend_80, kx_wp, kx_step, kx_lI, kx_lL, kx_lA, kx_gl, kx_pI, kx_pL, kx_pR, kx_pA, kx_pV, kx_s1, kx_s2, kx_sl, kx_pre, kx_c2, kx_pl, kx_cmp, kx_oF, kx_eqN, kx_nil, kx_c1, kx_ft, kx_aI, kx_aL, kx_aR, kx_ln, Nat.reduceAdd, Option.toList, List.cons_append, List.nil_append, cf1_2, cf9_12, cf1_7]
              repeat (simp only [h64, hq, h9, ks_eq, ks_ss]; try dsimp only [kx_wp, kx_step, kx_lI, kx_lL, kx_lA, kx_gl, kx_pI, kx_pL, kx_pR, kx_pA, kx_pV, kx_s1, kx_s2, kx_sl, kx_pre, kx_c2, kx_pl, kx_cmp, kx_oF, kx_eqN, kx_nil, kx_c1, kx_ft, kx_aI, kx_aL, kx_aR, kx_ln, Nat.reduceAdd, Option.toList, List.cons_append, List.nil_append, cf1_2, cf9_12, cf1_7])
              repeat' apply And.intro
              all_goals try (first | with_reducible assumption | (with_reducible refine ck_nzI ?_; simp; done) | (with_reducible refine ck_nzL ?_; simp; done) | (with_reducible refine vp_in_nI ?_ ?_ <;> first | omega | decide) | (with_reducible refine Nat.le_of_ble_eq_true ?_; rfl) | omega | exact Or.inl trivial | exact Or.inr trivial | exact Or.inl rfl | exact Or.inr rfl)
              · intro zc90
                with_reducible first | have ze90 := Int32.not_lt.mpr zc90 | have ze90 := zc90
                refine hB bX10_mend_97 _ _ _ _ _ _ _ kX10_mend_97 ?_
                dsimp only [bX10_mend_97, kx_wp, kx_step, kx_lI, kx_lL, kx_lA, kx_gl, kx_pI, kx_pL, kx_pR, kx_pA, kx_pV, kx_s1, kx_s2, kx_sl, kx_pre, kx_c2, kx_pl, kx_cmp, kx_oF, kx_eqN, kx_nil, kx_c1, kx_ft, kx_aI, kx_aL, kx_aR, kx_ln, Nat.reduceAdd, Option.toList, List.cons_append, List.nil_append, cf1_2, cf9_12, cf1_7]
                repeat (simp only [h64, hq, h9, ks_eq, ks_ss]; try dsimp only [kx_wp, kx_step, kx_lI, kx_lL, kx_lA, kx_gl, kx_pI, kx_pL, kx_pR, kx_pA, kx_pV, kx_s1, kx_s2, kx_sl, kx_pre, kx_c2, kx_pl, kx_cmp, kx_oF, kx_eqN, kx_nil, kx_c1, kx_ft, kx_aI, kx_aL, kx_aR, kx_ln, Nat.reduceAdd, Option.toList, List.cons_append, List.nil_append, cf1_2, cf9_12, cf1_7])
                repeat' apply And.intro
                all_goals try (first | with_reducible assumption | (with_reducible refine ck_nzI ?_; simp; done) | (with_reducible refine ck_nzL ?_; simp; done) | (with_reducible refine vp_in_nI ?_ ?_ <;> first | omega | decide) | (with_reducible refine Nat.le_of_ble_eq_true ?_; rfl) | omega | exact Or.inl trivial | exact Or.inr trivial | exact Or.inl rfl | exact Or.inr rfl)
                refine hB bX10_mend_98 _ _ _ _ _ _ _ kX10_mend_98 ?_
                dsimp only [bX10_mend_98, kx_wp, kx_step, kx_lI, kx_lL, kx_lA, kx_gl, kx_pI, kx_pL, kx_pR, kx_pA, kx_pV, kx_s1, kx_s2, kx_sl, kx_pre, kx_c2, kx_pl, kx_cmp, kx_oF, kx_eqN, kx_nil, kx_c1, kx_ft, kx_aI, kx_aL, kx_aR, kx_ln, Nat.reduceAdd, Option.toList, List.cons_append, List.nil_append, cf1_2, cf9_12, cf1_7]
                repeat (simp only [h64, hq, h9, ks_eq, ks_ss]; try dsimp only [kx_wp, kx_step, kx_lI, kx_lL, kx_lA, kx_gl, kx_pI, kx_pL, kx_pR, kx_pA, kx_pV, kx_s1, kx_s2, kx_sl, kx_pre, kx_c2, kx_pl, kx_cmp, kx_oF, kx_eqN, kx_nil, kx_c1, kx_ft, kx_aI, kx_aL, kx_aR, kx_ln, Nat.reduceAdd, Option.toList, List.cons_append, List.nil_append, cf1_2, cf9_12, cf1_7])
                repeat' apply And.intro
                all_goals try (first | with_reducible assumption | (with_reducible refine ck_nzI ?_; simp; done) | (with_reducible refine ck_nzL ?_; simp; done) | (with_reducible refine vp_in_nI ?_ ?_ <;> first | omega | decide) | (with_reducible refine Nat.le_of_ble_eq_true ?_; rfl) | omega | exact Or.inl trivial | exact Or.inr trivial | exact Or.inl rfl | exact Or.inr rfl)
                · intro zc101
                  first | exact absurd rfl zc101 | exact absurd zc101 (by decide) | exact absurd (by decide) zc101 | (exfalso; first | exact absurd zc7 (by decide) | exact absurd zc12 (by decide) | exact h12 (Decidable.not_not.mp zc30) | exact zc30 rfl | exact hm1 zc52 | exact hm2 (Decidable.not_not.mp zc58) | exact zc101 rfl | exact absurd zc101 (by decide) | exact zc125 rfl | exact absurd zc125 (by decide)) | (exfalso; simp_all; done)
                · intro zc101
                  with_reducible first | have ze101 := Decidable.not_not.mp zc101 | have ze101 := zc101
                  refine hB bX10_mend_104 _ _ _ _ _ _ _ kX10_mend_104 ?_
                  dsimp only [bX10_mend_104, kx_wp, kx_step, kx_lI, kx_lL, kx_lA, kx_gl, kx_pI, kx_pL, kx_pR, kx_pA, kx_pV, kx_s1, kx_s2, kx_sl, kx_pre, kx_c2, kx_pl, kx_cmp, kx_oF, kx_eqN, kx_nil, kx_c1, kx_ft, kx_aI, kx_aL, kx_aR, kx_ln, Nat.reduceAdd, Option.toList, List.cons_append, List.nil_append, cf1_2, cf9_12, cf1_7]
                  repeat (simp only [h64, hq, h9, ks_eq, ks_ss]; try dsimp only [kx_wp, kx_step, kx_lI, kx_lL, kx_lA, kx_gl, kx_pI, kx_pL, kx_pR, kx_pA, kx_pV, kx_s1, kx_s2, kx_sl, kx_pre, kx_c2, kx_pl, kx_cmp, kx_oF, kx_eqN, kx_nil, kx_c1, kx_ft, kx_aI, kx_aL, kx_aR, kx_ln, Nat.reduceAdd, Option.toList, List.cons_append, List.nil_append, cf1_2, cf9_12, cf1_7])
                  repeat' apply And.intro
                  all_goals try (first | with_reducible assumption | (with_reducible refine ck_nzI ?_; simp; done) | (with_reducible refine ck_nzL ?_; simp; done) | (with_reducible refine vp_in_nI ?_ ?_ <;> first | omega | decide) | (with_reducible refine Nat.le_of_ble_eq_true ?_; rfl) | omega | exact Or.inl trivial | exact Or.inr trivial | exact Or.inl rfl | exact Or.inr rfl)
                  · intro zc106
                    have ze106 := zc106
                    refine hB bX10_mend_117 _ _ _ _ _ _ _ kX10_mend_117 ?_
                    dsimp only [bX10_mend_117, kx_wp, kx_step, kx_lI, kx_lL, kx_lA, kx_gl, kx_pI, kx_pL, kx_pR, kx_pA, kx_pV, kx_s1, kx_s2, kx_sl, kx_pre, kx_c2, kx_pl, kx_cmp, kx_oF, kx_eqN, kx_nil, kx_c1, kx_ft, kx_aI, kx_aL, kx_aR, kx_ln, Nat.reduceAdd, Option.toList, List.cons_append, List.nil_append, cf1_2, cf9_12, cf1_7]
                    repeat (simp only [h64, hq, h9, ks_eq, ks_ss]; try dsimp only [kx_wp, kx_step, kx_lI, kx_lL, kx_lA, kx_gl, kx_pI, kx_pL, kx_pR, kx_pA, kx_pV, kx_s1, kx_s2, kx_sl, kx_pre, kx_c2, kx_pl, kx_cmp, kx_oF, kx_eqN, kx_nil, kx_c1, kx_ft, kx_aI, kx_aL, kx_aR, kx_ln, Nat.reduceAdd, Option.toList, List.cons_append, List.nil_append, cf1_2, cf9_12, cf1_7])
                    repeat' apply And.intro
                    all_goals try (first | with_reducible assumption | (with_reducible refine ck_nzI ?_; simp; done) | (with_reducible refine ck_nzL ?_; simp; done) | (with_reducible refine vp_in_nI ?_ ?_ <;> first | omega | decide) | (with_reducible refine Nat.le_of_ble_eq_true ?_; rfl) | omega | exact Or.inl trivial | exact Or.inr trivial | exact Or.inl rfl | exact Or.inr rfl)
                    refine hB bX10_mend_122 _ _ _ _ _ _ _ kX10_mend_122 ?_
                    dsimp only [bX10_mend_122, kx_wp, kx_step, kx_lI, kx_lL, kx_lA, kx_gl, kx_pI, kx_pL, kx_pR, kx_pA, kx_pV, kx_s1, kx_s2, kx_sl, kx_pre, kx_c2, kx_pl, kx_cmp, kx_oF, kx_eqN, kx_nil, kx_c1, kx_ft, kx_aI, kx_aL, kx_aR, kx_ln, Nat.reduceAdd, Option.toList, List.cons_append, List.nil_append, cf1_2, cf9_12, cf1_7]
                    repeat (simp only [h64, hq, h9, ks_eq, ks_ss]; try dsimp only [kx_wp, kx_step, kx_lI, kx_lL, kx_lA, kx_gl, kx_pI, kx_pL, kx_pR, kx_pA, kx_pV, kx_s1, kx_s2, kx_sl, kx_pre, kx_c2, kx_pl, kx_cmp, kx_oF, kx_eqN, kx_nil, kx_c1, kx_ft, kx_aI, kx_aL, kx_aR, kx_ln, Nat.reduceAdd, Option.toList, List.cons_append, List.nil_append, cf1_2, cf9_12, cf1_7])
                    all_goals (repeat' apply And.intro)
                    all_goals ((try clear hB hC); first | exact True.intro | first | exact absurd zc106 (by decide) | exact absurd rfl zc106 | exact absurd zc130 (by decide) | exact absurd rfl zc130 | exact absurd zc143 (by decide) | exact absurd rfl zc143 | exact absurd zc101 (by decide) | exact absurd rfl zc101 | exact absurd zc125 (by decide) | exact absurd rfl zc125 | (simp only [cx_md, zc7, ze7, zc12, ze12, ze30, ze52, ze58, zc77, ze77, zc90, ze90, eq_true ze101, eq_true ze106, ↓reduceIte, Nat.reduceEqDiff, OfNat.ofNat_ne_zero, OfNat.ofNat_ne_one, Nat.succ_ne_zero]; done) | (simp only [cx_md, zc7, ze7, zc12, ze12, ze30, ze52, ze58, zc77, ze77, zc90, ze90, eq_true ze101, eq_true ze106, ↓reduceIte]; done) | (simp only [cx_md, zc7, ze7, zc12, ze12, ze30, ze52, ze58, zc77, ze77, zc90, ze90, eq_true ze101, eq_true ze106, ↓reduceIte]; rfl) | (unfold cx_md; simp only [zc7, ze7, zc12, ze12, ze30, ze52, ze58, zc77, ze77, zc90, ze90, eq_true ze101, eq_true ze106, ↓reduceIte]; rfl))
                  · intro zc106
                    have ze106 := zc106
                    refine hB bX10_mend_109 _ _ _ _ _ _ _ kX10_mend_109 ?_
                    dsimp only [bX10_mend_109, kx_wp, kx_step, kx_lI, kx_lL, kx_lA, kx_gl, kx_pI, kx_pL, kx_pR, kx_pA, kx_pV, kx_s1, kx_s2, kx_sl, kx_pre, kx_c2, kx_pl, kx_cmp, kx_oF, kx_eqN, kx_nil, kx_c1, kx_ft, kx_aI, kx_aL, kx_aR, kx_ln, Nat.reduceAdd, Option.toList, List.cons_append, List.nil_append, cf1_2, cf9_12, cf1_7]
                    repeat (simp only [h64, hq, h9, ks_eq, ks_ss]; try dsimp only [kx_wp, kx_step, kx_lI, kx_lL, kx_lA, kx_gl, kx_pI, kx_pL, kx_pR, kx_pA, kx_pV, kx_s1, kx_s2, kx_sl, kx_pre, kx_c2, kx_pl, kx_cmp, kx_oF, kx_eqN, kx_nil, kx_c1, kx_ft, kx_aI, kx_aL, kx_aR, kx_ln, Nat.reduceAdd, Option.toList, List.cons_append, List.nil_append, cf1_2, cf9_12, cf1_7])
                    repeat' apply And.intro
                    all_goals try (first | with_reducible assumption | (with_reducible refine ck_nzI ?_; simp; done) | (with_reducible refine ck_nzL ?_; simp; done) | (with_reducible refine vp_in_nI ?_ ?_ <;> first | omega | decide) | (with_reducible refine Nat.le_of_ble_eq_true ?_; rfl) | omega | exact Or.inl trivial | exact Or.inr trivial | exact Or.inl rfl | exact Or.inr rfl)
                    refine hB bX10_mend_122 _ _ _ _ _ _ _ kX10_mend_122 ?_
                    dsimp only [bX10_mend_122, kx_wp, kx_step, kx_lI, kx_lL, kx_lA, kx_gl, kx_pI, kx_pL, kx_pR, kx_pA, kx_pV, kx_s1, kx_s2, kx_sl, kx_pre, kx_c2, kx_pl, kx_cmp, kx_oF, kx_eqN, kx_nil, kx_c1, kx_ft, kx_aI, kx_aL, kx_aR, kx_ln, Nat.reduceAdd, Option.toList, List.cons_append, List.nil_append, cf1_2, cf9_12, cf1_7]
                    repeat (simp only [h64, hq, h9, ks_eq, ks_ss]; try dsimp only [kx_wp, kx_step, kx_lI, kx_lL, kx_lA, kx_gl, kx_pI, kx_pL, kx_pR, kx_pA, kx_pV, kx_s1, kx_s2, kx_sl, kx_pre, kx_c2, kx_pl, kx_cmp, kx_oF, kx_eqN, kx_nil, kx_c1, kx_ft, kx_aI, kx_aL, kx_aR, kx_ln, Nat.reduceAdd, Option.toList, List.cons_append, List.nil_append, cf1_2, cf9_12, cf1_7])
                    all_goals (repeat' apply And.intro)
                    all_goals ((try clear hB hC); first | exact True.intro | first | exact absurd zc106 (by decide) | exact absurd rfl zc106 | exact absurd zc130 (by decide) | exact absurd rfl zc130 | exact absurd zc143 (by decide) | exact absurd rfl zc143 | exact absurd zc101 (by decide) | exact absurd rfl zc101 | exact absurd zc125 (by decide) | exact absurd rfl zc125 | (simp only [cx_md, zc7, ze7, zc12, ze12, ze30, ze52, ze58, zc77, ze77, zc90, ze90, eq_true ze101, ze106, ↓reduceIte, Nat.reduceEqDiff, OfNat.ofNat_ne_zero, OfNat.ofNat_ne_one, Nat.succ_ne_zero]; done) | (simp only [cx_md, zc7, ze7, zc12, ze12, ze30, ze52, ze58, zc77, ze77, zc90, ze90, eq_true ze101, ze106, ↓reduceIte]; done) | (simp only [cx_md, zc7, ze7, zc12, ze12, ze30, ze52, ze58, zc77, ze77, zc90, ze90, eq_true ze101, ze106, ↓reduceIte]; rfl) | (unfold cx_md; simp only [zc7, ze7, zc12, ze12, ze30, ze52, ze58, zc77, ze77, zc90, ze90, eq_true ze101, ze106, ↓reduceIte]; rfl))
              · intro zc90
                with_reducible first | have ze90 := Int32.not_le.mp zc90 | have ze90 := zc90
                refine hB bX10_mend_93 _ _ _ _ _ _ _ kX10_mend_93 ?_
                dsimp only [bX10_mend_93, kx_wp, kx_step, kx_lI, kx_lL, kx_lA, kx_gl, kx_pI, kx_pL, kx_pR, kx_pA, kx_pV, kx_s1, kx_s2, kx_sl, kx_pre, kx_c2, kx_pl, kx_cmp, kx_oF, kx_eqN, kx_nil, kx_c1, kx_ft, kx_aI, kx_aL, kx_aR, kx_ln, Nat.reduceAdd, Option.toList, List.cons_append, List.nil_append, cf1_2, cf9_12, cf1_7]
                repeat (simp only [h64, hq, h9, ks_eq, ks_ss]; try dsimp only [kx_wp, kx_step, kx_lI, kx_lL, kx_lA, kx_gl, kx_pI, kx_pL, kx_pR, kx_pA, kx_pV, kx_s1, kx_s2, kx_sl, kx_pre, kx_c2, kx_pl, kx_cmp, kx_oF, kx_eqN, kx_nil, kx_c1, kx_ft, kx_aI, kx_aL, kx_aR, kx_ln, Nat.reduceAdd, Option.toList, List.cons_append, List.nil_append, cf1_2, cf9_12, cf1_7])
                repeat' apply And.intro
                all_goals try (first | with_reducible assumption | (with_reducible refine ck_nzI ?_; simp; done) | (with_reducible refine ck_nzL ?_; simp; done) | (with_reducible refine vp_in_nI ?_ ?_ <;> first | omega | decide) | (with_reducible refine Nat.le_of_ble_eq_true ?_; rfl) | omega | exact Or.inl trivial | exact Or.inr trivial | exact Or.inl rfl | exact Or.inr rfl)
                refine hB bX10_mend_98 _ _ _ _ _ _ _ kX10_mend_98 ?_
                dsimp only [bX10_mend_98, kx_wp, kx_step, kx_lI, kx_lL, kx_lA, kx_gl, kx_pI, kx_pL, kx_pR, kx_pA, kx_pV, kx_s1, kx_s2, kx_sl, kx_pre, kx_c2, kx_pl, kx_cmp, kx_oF, kx_eqN, kx_nil, kx_c1, kx_ft, kx_aI, kx_aL, kx_aR, kx_ln, Nat.reduceAdd, Option.toList, List.cons_append, List.nil_append, cf1_2, cf9_12, cf1_7]
                repeat (simp only [h64, hq, h9, ks_eq, ks_ss]; try dsimp only [kx_wp, kx_step, kx_lI, kx_lL, kx_lA, kx_gl, kx_pI, kx_pL, kx_pR, kx_pA, kx_pV, kx_s1, kx_s2, kx_sl, kx_pre, kx_c2, kx_pl, kx_cmp, kx_oF, kx_eqN, kx_nil, kx_c1, kx_ft, kx_aI, kx_aL, kx_aR, kx_ln, Nat.reduceAdd, Option.toList, List.cons_append, List.nil_append, cf1_2, cf9_12, cf1_7])
                repeat' apply And.intro
                all_goals try (first | with_reducible assumption | (with_reducible refine ck_nzI ?_; simp; done) | (with_reducible refine ck_nzL ?_; simp; done) | (with_reducible refine vp_in_nI ?_ ?_ <;> first | omega | decide) | (with_reducible refine Nat.le_of_ble_eq_true ?_; rfl) | omega | exact Or.inl trivial | exact Or.inr trivial | exact Or.inl rfl | exact Or.inr rfl)
                · intro zc101
                  first | exact absurd rfl zc101 | exact absurd zc101 (by decide) | exact absurd (by decide) zc101 | (exfalso; first | exact absurd zc7 (by decide) | exact absurd zc12 (by decide) | exact h12 (Decidable.not_not.mp zc30) | exact zc30 rfl | exact hm1 zc52 | exact hm2 (Decidable.not_not.mp zc58) | exact zc101 rfl | exact absurd zc101 (by decide) | exact zc125 rfl | exact absurd zc125 (by decide)) | (exfalso; simp_all; done)
                · intro zc101
                  with_reducible first | have ze101 := Decidable.not_not.mp zc101 | have ze101 := zc101
                  refine hB bX10_mend_104 _ _ _ _ _ _ _ kX10_mend_104 ?_
                  dsimp only [bX10_mend_104, kx_wp, kx_step, kx_lI, kx_lL, kx_lA, kx_gl, kx_pI, kx_pL, kx_pR, kx_pA, kx_pV, kx_s1, kx_s2, kx_sl, kx_pre, kx_c2, kx_pl, kx_cmp, kx_oF, kx_eqN, kx_nil, kx_c1, kx_ft, kx_aI, kx_aL, kx_aR, kx_ln, Nat.reduceAdd, Option.toList, List.cons_append, List.nil_append, cf1_2, cf9_12, cf1_7]
                  repeat (simp only [h64, hq, h9, ks_eq, ks_ss]; try dsimp only [kx_wp, kx_step, kx_lI, kx_lL, kx_lA, kx_gl, kx_pI, kx_pL, kx_pR, kx_pA, kx_pV, kx_s1, kx_s2, kx_sl, kx_pre, kx_c2, kx_pl, kx_cmp, kx_oF, kx_eqN, kx_nil, kx_c1, kx_ft, kx_aI, kx_aL, kx_aR, kx_ln, Nat.reduceAdd, Option.toList, List.cons_append, List.nil_append, cf1_2, cf9_12, cf1_7])
                  repeat' apply And.intro
                  all_goals try (first | with_reducible assumption | (with_reducible refine ck_nzI ?_; simp; done) | (with_reducible refine ck_nzL ?_; simp; done) | (with_reducible refine vp_in_nI ?_ ?_ <;> first | omega | decide) | (with_reducible refine Nat.le_of_ble_eq_true ?_; rfl) | omega | exact Or.inl trivial | exact Or.inr trivial | exact Or.inl rfl | exact Or.inr rfl)
                  · intro zc106
                    have ze106 := zc106
                    refine hB bX10_mend_117 _ _ _ _ _ _ _ kX10_mend_117 ?_
                    dsimp only [bX10_mend_117, kx_wp, kx_step, kx_lI, kx_lL, kx_lA, kx_gl, kx_pI, kx_pL, kx_pR, kx_pA, kx_pV, kx_s1, kx_s2, kx_sl, kx_pre, kx_c2, kx_pl, kx_cmp, kx_oF, kx_eqN, kx_nil, kx_c1, kx_ft, kx_aI, kx_aL, kx_aR, kx_ln, Nat.reduceAdd, Option.toList, List.cons_append, List.nil_append, cf1_2, cf9_12, cf1_7]
                    repeat (simp only [h64, hq, h9, ks_eq, ks_ss]; try dsimp only [kx_wp, kx_step, kx_lI, kx_lL, kx_lA, kx_gl, kx_pI, kx_pL, kx_pR, kx_pA, kx_pV, kx_s1, kx_s2, kx_sl, kx_pre, kx_c2, kx_pl, kx_cmp, kx_oF, kx_eqN, kx_nil, kx_c1, kx_ft, kx_aI, kx_aL, kx_aR, kx_ln, Nat.reduceAdd, Option.toList, List.cons_append, List.nil_append, cf1_2, cf9_12, cf1_7])
                    repeat' apply And.intro
                    all_goals try (first | with_reducible assumption | (with_reducible refine ck_nzI ?_; simp; done) | (with_reducible refine ck_nzL ?_; simp; done) | (with_reducible refine vp_in_nI ?_ ?_ <;> first | omega | decide) | (with_reducible refine Nat.le_of_ble_eq_true ?_; rfl) | omega | exact Or.inl trivial | exact Or.inr trivial | exact Or.inl rfl | exact Or.inr rfl)
                    refine hB bX10_mend_122 _ _ _ _ _ _ _ kX10_mend_122 ?_
                    dsimp only [bX10_mend_122, kx_wp, kx_step, kx_lI, kx_lL, kx_lA, kx_gl, kx_pI, kx_pL, kx_pR, kx_pA, kx_pV, kx_s1, kx_s2, kx_sl, kx_pre, kx_c2, kx_pl, kx_cmp, kx_oF, kx_eqN, kx_nil, kx_c1, kx_ft, kx_aI, kx_aL, kx_aR, kx_ln, Nat.reduceAdd, Option.toList, List.cons_append, List.nil_append, cf1_2, cf9_12, cf1_7]
                    repeat (simp only [h64, hq, h9, ks_eq, ks_ss]; try dsimp only [kx_wp, kx_step, kx_lI, kx_lL, kx_lA, kx_gl, kx_pI, kx_pL, kx_pR, kx_pA, kx_pV, kx_s1, kx_s2, kx_sl, kx_pre, kx_c2, kx_pl, kx_cmp, kx_oF, kx_eqN, kx_nil, kx_c1, kx_ft, kx_aI, kx_aL, kx_aR, kx_ln, Nat.reduceAdd, Option.toList, List.cons_append, List.nil_append, cf1_2, cf9_12, cf1_7])
                    all_goals (repeat' apply And.intro)
                    all_goals ((try clear hB hC); first | exact True.intro | first | exact absurd zc106 (by decide) | exact absurd rfl zc106 | exact absurd zc130 (by decide) | exact absurd rfl zc130 | exact absurd zc143 (by decide) | exact absurd rfl zc143 | exact absurd zc101 (by decide) | exact absurd rfl zc101 | exact absurd zc125 (by decide) | exact absurd rfl zc125 | (simp only [cx_md, zc7, ze7, zc12, ze12, ze30, ze52, ze58, zc77, ze77, zc90, ze90, eq_true ze101, eq_true ze106, ↓reduceIte, Nat.reduceEqDiff, OfNat.ofNat_ne_zero, OfNat.ofNat_ne_one, Nat.succ_ne_zero]; done) | (simp only [cx_md, zc7, ze7, zc12, ze12, ze30, ze52, ze58, zc77, ze77, zc90, ze90, eq_true ze101, eq_true ze106, ↓reduceIte]; done) | (simp only [cx_md, zc7, ze7, zc12, ze12, ze30, ze52, ze58, zc77, ze77, zc90, ze90, eq_true ze101, eq_true ze106, ↓reduceIte]; rfl) | (unfold cx_md; simp only [zc7, ze7, zc12, ze12, ze30, ze52, ze58, zc77, ze77, zc90, ze90, eq_true ze101, eq_true ze106, ↓reduceIte]; rfl))
                  · intro zc106
                    have ze106 := zc106
                    refine hB bX10_mend_109 _ _ _ _ _ _ _ kX10_mend_109 ?_
                    dsimp only [bX10_mend_109, kx_wp, kx_step, kx_lI, kx_lL, kx_lA, kx_gl, kx_pI, kx_pL, kx_pR, kx_pA, kx_pV, kx_s1, kx_s2, kx_sl, kx_pre, kx_c2, kx_pl, kx_cmp, kx_oF, kx_eqN, kx_nil, kx_c1, kx_ft, kx_aI, kx_aL, kx_aR, kx_ln, Nat.reduceAdd, Option.toList, List.cons_append, List.nil_append, cf1_2, cf9_12, cf1_7]
                    repeat (simp only [h64, hq, h9, ks_eq, ks_ss]; try dsimp only [kx_wp, kx_step, kx_lI, kx_lL, kx_lA, kx_gl, kx_pI, kx_pL, kx_pR, kx_pA, kx_pV, kx_s1, kx_s2, kx_sl, kx_pre, kx_c2, kx_pl, kx_cmp, kx_oF, kx_eqN, kx_nil, kx_c1, kx_ft, kx_aI, kx_aL, kx_aR, kx_ln, Nat.reduceAdd, Option.toList, List.cons_append, List.nil_append, cf1_2, cf9_12, cf1_7])
                    repeat' apply And.intro
                    all_goals try (first | with_reducible assumption | (with_reducible refine ck_nzI ?_; simp; done) | (with_reducible refine ck_nzL ?_; simp; done) | (with_reducible refine vp_in_nI ?_ ?_ <;> first | omega | decide) | (with_reducible refine Nat.le_of_ble_eq_true ?_; rfl) | omega | exact Or.inl trivial | exact Or.inr trivial | exact Or.inl rfl | exact Or.inr rfl)
                    refine hB bX10_mend_122 _ _ _ _ _ _ _ kX10_mend_122 ?_
                    dsimp only [bX10_mend_122, kx_wp, kx_step, kx_lI, kx_lL, kx_lA, kx_gl, kx_pI, kx_pL, kx_pR, kx_pA, kx_pV, kx_s1, kx_s2, kx_sl, kx_pre, kx_c2, kx_pl, kx_cmp, kx_oF, kx_eqN, kx_nil, kx_c1, kx_ft, kx_aI, kx_aL, kx_aR, kx_ln, Nat.reduceAdd, Option.toList, List.cons_append, List.nil_append, cf1_2, cf9_12, cf1_7]
                    repeat (simp only [h64, hq, h9, ks_eq, ks_ss]; try dsimp only [kx_wp, kx_step, kx_lI, kx_lL, kx_lA, kx_gl, kx_pI, kx_pL, kx_pR, kx_pA, kx_pV, kx_s1, kx_s2, kx_sl, kx_pre, kx_c2, kx_pl, kx_cmp, kx_oF, kx_eqN, kx_nil, kx_c1, kx_ft, kx_aI, kx_aL, kx_aR, kx_ln, Nat.reduceAdd, Option.toList, List.cons_append, List.nil_append, cf1_2, cf9_12, cf1_7])
                    all_goals (repeat' apply And.intro)
                    all_goals ((try clear hB hC); first | exact True.intro | first | exact absurd zc106 (by decide) | exact absurd rfl zc106 | exact absurd zc130 (by decide) | exact absurd rfl zc130 | exact absurd zc143 (by decide) | exact absurd rfl zc143 | exact absurd zc101 (by decide) | exact absurd rfl zc101 | exact absurd zc125 (by decide) | exact absurd rfl zc125 | (simp only [cx_md, zc7, ze7, zc12, ze12, ze30, ze52, ze58, zc77, ze77, zc90, ze90, eq_true ze101, ze106, ↓reduceIte, Nat.reduceEqDiff, OfNat.ofNat_ne_zero, OfNat.ofNat_ne_one, Nat.succ_ne_zero]; done) | (simp only [cx_md, zc7, ze7, zc12, ze12, ze30, ze52, ze58, zc77, ze77, zc90, ze90, eq_true ze101, ze106, ↓reduceIte]; done) | (simp only [cx_md, zc7, ze7, zc12, ze12, ze30, ze52, ze58, zc77, ze77, zc90, ze90, eq_true ze101, ze106, ↓reduceIte]; rfl) | (unfold cx_md; simp only [zc7, ze7, zc12, ze12, ze30, ze52, ze58, zc77, ze77, zc90, ze90, eq_true ze101, ze106, ↓reduceIte]; rfl))
          · intro zc58
            first | exact absurd rfl zc58 | exact absurd zc58 (by decide) | exact absurd (by decide) zc58 | (exfalso; first | exact absurd zc7 (by decide) | exact absurd zc12 (by decide) | exact h12 (Decidable.not_not.mp zc30) | exact zc30 rfl | exact hm1 zc52 | exact hm2 (Decidable.not_not.mp zc58) | exact zc101 rfl | exact absurd zc101 (by decide) | exact zc125 rfl | exact absurd zc125 (by decide)) | (exfalso; simp_all; done)
      · intro zc30
        first | exact absurd rfl zc30 | exact absurd zc30 (by decide) | exact absurd (by decide) zc30 | (exfalso; first | exact absurd zc7 (by decide) | exact absurd zc12 (by decide) | exact h12 (Decidable.not_not.mp zc30) | exact zc30 rfl | exact hm1 zc52 | exact hm2 (Decidable.not_not.mp zc58) | exact zc101 rfl | exact absurd zc101 (by decide) | exact zc125 rfl | exact absurd zc125 (by decide)) | (exfalso; simp_all; done)

set_option maxRecDepth 100000 in
set_option maxHeartbeats 4000000 in
theorem ct_X10_mend_n1 (l : Launch) (G : kx_G) {P : kx_P} {sz : Nat} {sv : Value} {K : Nat → Int32} (h64 : P 64 = kO 10 (kf (cr10 sv) K)) {cl : Nat} {cn : Nat → Nat} (h69 : P 69 = kR 8 (fun i => if i < cl then some (cn i) else none)) (h7 : K 7 = nI cl) (hcl : cl ≤ 8) {c : Nat} (hc : c < cl) {w : Nat} {V T Q Fo St Al Wm S C : Nat → Int32} {d : Int64} {h : Value} (H : cx_R P (cn c) w V T Q Fo St Al Wm) (hs : P (w + 5) = kI 0 64 S) (hq : P (cn c) = kO 1 (kf (cr1 (.ref w) d h) C)) (h12 : V 12 = 0)  : kx_M l G sX10_mend 6 0 0 [.ref 64, .int (nI c), .int (1)] P sz (some (.int (-1))) P sz := by
  have h64c : 64 ≤ cn c := H.2.1
  have hne : ¬ cn c = w := by have := H.2.2.1; omega
  have h9 : P w = kO 9 (kf (cr9 w) V) := H.2.2.2.2.2.1
  have h9c : ∀ y, kx_set P (cn c) y w = kO 9 (kf (cr9 w) V) := fun y => (ks_ne (fun z => hne z.symm)).trans h9
  have hA : P 65 = kO 0 (kf cr0 Al) := H.2.2.2.2.2.2.2.2.2.2.1
  have hT : P (w + 1) = kI 0 24 T := H.2.2.2.2.2.2.1
  have hPW : cW P (cn c) w S d h C = P := by unfold cW; rw [ks_id hs, ks_id hq]
  refine kx_mk kx_tab kxLok_X10 (ini := false) [some (.ref 64), some (.int (nI c)), some (.int (1)), none, none, none, none, none] ⟨by decide, rfl, by decide, by decide⟩ (⟨_, rfl⟩) rfl rfl (fun g hB hC => ?_)
  refine hB bX10_mend_0 _ _ _ _ _ _ _ kX10_mend_0 ?_
  dsimp only [bX10_mend_0, kx_wp, kx_step, kx_lI, kx_lL, kx_lA, kx_gl, kx_pI, kx_pL, kx_pR, kx_pA, kx_pV, kx_s1, kx_s2, kx_sl, kx_pre, kx_c2, kx_pl, kx_cmp, kx_oF, kx_eqN, kx_nil, kx_c1, kx_ft, kx_aI, kx_aL, kx_aR, kx_ln, Nat.reduceAdd, Option.toList, List.cons_append, List.nil_append, cf1_2, cf9_12, cf1_7]
  repeat (simp only [h64, hq, h9, h12, ks_eq, ks_ss]; try dsimp only [kx_wp, kx_step, kx_lI, kx_lL, kx_lA, kx_gl, kx_pI, kx_pL, kx_pR, kx_pA, kx_pV, kx_s1, kx_s2, kx_sl, kx_pre, kx_c2, kx_pl, kx_cmp, kx_oF, kx_eqN, kx_nil, kx_c1, kx_ft, kx_aI, kx_aL, kx_aR, kx_ln, Nat.reduceAdd, Option.toList, List.cons_append, List.nil_append, cf1_2, cf9_12, cf1_7])
  repeat' apply And.intro
  all_goals try (first | with_reducible assumption | (with_reducible refine ck_nzI ?_; simp; done) | (with_reducible refine ck_nzL ?_; simp; done) | (with_reducible refine vp_in_nI ?_ ?_ <;> first | omega | decide) | (with_reducible refine Nat.le_of_ble_eq_true ?_; rfl) | omega | exact Or.inl trivial | exact Or.inr trivial | exact Or.inl rfl | exact Or.inr rfl)
  refine hC.1 138 _ _ _ _ _ _ _ 10 _ _ _ _ _ _ _ _ _ _ _ _ lX10_138 (ct_X10_theClock l G h64 h69 h7 hcl hc) ⟨by decide, rfl⟩ (h64) rfl rfl (Nat.le_of_ble_eq_true rfl) (by first | decide | omega) (by decide) (by omega) (by omega) dX10_mend_2 ?_
  refine hB bX10_mend_5 _ _ _ _ _ _ _ kX10_mend_5 ?_
  dsimp only [bX10_mend_5, kx_wp, kx_step, kx_lI, kx_lL, kx_lA, kx_gl, kx_pI, kx_pL, kx_pR, kx_pA, kx_pV, kx_s1, kx_s2, kx_sl, kx_pre, kx_c2, kx_pl, kx_cmp, kx_oF, kx_eqN, kx_nil, kx_c1, kx_ft, kx_aI, kx_aL, kx_aR, kx_ln, Nat.reduceAdd, Option.toList, List.cons_append, List.nil_append, cf1_2, cf9_12, cf1_7]
  repeat (simp only [h64, hq, h9, h12, ks_eq, ks_ss]; try dsimp only [kx_wp, kx_step, kx_lI, kx_lL, kx_lA, kx_gl, kx_pI, kx_pL, kx_pR, kx_pA, kx_pV, kx_s1, kx_s2, kx_sl, kx_pre, kx_c2, kx_pl, kx_cmp, kx_oF, kx_eqN, kx_nil, kx_c1, kx_ft, kx_aI, kx_aL, kx_aR, kx_ln, Nat.reduceAdd, Option.toList, List.cons_append, List.nil_append, cf1_2, cf9_12, cf1_7])
  repeat' apply And.intro
  all_goals try (first | with_reducible assumption | (with_reducible refine ck_nzI ?_; simp; done) | (with_reducible refine ck_nzL ?_; simp; done) | (with_reducible refine vp_in_nI ?_ ?_ <;> first | omega | decide) | (with_reducible refine Nat.le_of_ble_eq_true ?_; rfl) | omega | exact Or.inl trivial | exact Or.inr trivial | exact Or.inl rfl | exact Or.inr rfl)
  · intro zc7
    first | exact absurd rfl zc7 | exact absurd zc7 (by decide) | exact absurd (by decide) zc7 | (exfalso; first | exact absurd zc7 (by decide) | exact absurd zc12 (by decide) | exact h12 (Decidable.not_not.mp zc30) | exact zc30 rfl) | (exfalso; simp_all; done)
  · intro zc7
    with_reducible first | have ze7 := Int32.not_lt.mp zc7 | have ze7 := zc7
    refine hB bX10_mend_10 _ _ _ _ _ _ _ kX10_mend_10 ?_
    dsimp only [bX10_mend_10, kx_wp, kx_step, kx_lI, kx_lL, kx_lA, kx_gl, kx_pI, kx_pL, kx_pR, kx_pA, kx_pV, kx_s1, kx_s2, kx_sl, kx_pre, kx_c2, kx_pl, kx_cmp, kx_oF, kx_eqN, kx_nil, kx_c1, kx_ft, kx_aI, kx_aL, kx_aR, kx_ln, Nat.reduceAdd, Option.toList, List.cons_append, List.nil_append, cf1_2, cf9_12, cf1_7]
    repeat (simp only [h64, hq, h9, h12, ks_eq, ks_ss]; try dsimp only [kx_wp, kx_step, kx_lI, kx_lL, kx_lA, kx_gl, kx_pI, kx_pL, kx_pR, kx_pA, kx_pV, kx_s1, kx_s2, kx_sl, kx_pre, kx_c2, kx_pl, kx_cmp, kx_oF, kx_eqN, kx_nil, kx_c1, kx_ft, kx_aI, kx_aL, kx_aR, kx_ln, Nat.reduceAdd, Option.toList, List.cons_append, List.nil_append, cf1_2, cf9_12, cf1_7])
    repeat' apply And.intro
    all_goals try (first | with_reducible assumption | (with_reducible refine ck_nzI ?_; simp; done) | (with_reducible refine ck_nzL ?_; simp; done) | (with_reducible refine vp_in_nI ?_ ?_ <;> first | omega | decide) | (with_reducible refine Nat.le_of_ble_eq_true ?_; rfl) | omega | exact Or.inl trivial | exact Or.inr trivial | exact Or.inl rfl | exact Or.inr rfl)
    · intro zc12
      first | exact absurd rfl zc12 | exact absurd zc12 (by decide) | exact absurd (by decide) zc12 | (exfalso; first | exact absurd zc7 (by decide) | exact absurd zc12 (by decide) | exact h12 (Decidable.not_not.mp zc30) | exact zc30 rfl) | (exfalso; simp_all; done)
    · intro zc12
      with_reducible first | have ze12 := Int32.not_lt.mp zc12 | have ze12 := zc12
      refine hB bX10_mend_15 _ _ _ _ _ _ _ kX10_mend_15 ?_
      dsimp only [bX10_mend_15, kx_wp, kx_step, kx_lI, kx_lL, kx_lA, kx_gl, kx_pI, kx_pL, kx_pR, kx_pA, kx_pV, kx_s1, kx_s2, kx_sl, kx_pre, kx_c2, kx_pl, kx_cmp, kx_oF, kx_eqN, kx_nil, kx_c1, kx_ft, kx_aI, kx_aL, kx_aR, kx_ln, Nat.reduceAdd, Option.toList, List.cons_append, List.nil_append, cf1_2, cf9_12, cf1_7]
      repeat (simp only [h64, hq, h9, h12, ks_eq, ks_ss]; try dsimp only [kx_wp, kx_step, kx_lI, kx_lL, kx_lA, kx_gl, kx_pI, kx_pL, kx_pR, kx_pA, kx_pV, kx_s1, kx_s2, kx_sl, kx_pre, kx_c2, kx_pl, kx_cmp, kx_oF, kx_eqN, kx_nil, kx_c1, kx_ft, kx_aI, kx_aL, kx_aR, kx_ln, Nat.reduceAdd, Option.toList, List.cons_append, List.nil_append, cf1_2, cf9_12, cf1_7])
      repeat' apply And.intro
      all_goals try (first | with_reducible assumption | (with_reducible refine ck_nzI ?_; simp; done) | (with_reducible refine ck_nzL ?_; simp; done) | (with_reducible refine vp_in_nI ?_ ?_ <;> first | omega | decide) | (with_reducible refine Nat.le_of_ble_eq_true ?_; rfl) | omega | exact Or.inl trivial | exact Or.inr trivial | exact Or.inl rfl | exact Or.inr rfl)
      refine hC.2.1 95 _ _ _ _ _ _ _ _ _ _ _ _ _ _ _ _ _ lX10_95 (ct_X10_need l G (b := 1) (by decide)) rfl rfl (Nat.le_of_ble_eq_true rfl) (by first | decide | omega) (by decide) (by omega) (by omega) dX10_mend_20 ?_
      refine hB bX10_mend_23 _ _ _ _ _ _ _ kX10_mend_23 ?_
      dsimp only [bX10_mend_23, kx_wp, kx_step, kx_lI, kx_lL, kx_lA, kx_gl, kx_pI, kx_pL, kx_pR, kx_pA, kx_pV, kx_s1, kx_s2, kx_sl, kx_pre, kx_c2, kx_pl, kx_cmp, kx_oF, kx_eqN, kx_nil, kx_c1, kx_ft, kx_aI, kx_aL, kx_aR, kx_ln, Nat.reduceAdd, Option.toList, List.cons_append, List.nil_append, cf1_2, cf9_12, cf1_7]
      repeat (simp only [h64, hq, h9, h12, ks_eq, ks_ss]; try dsimp only [kx_wp, kx_step, kx_lI, kx_lL, kx_lA, kx_gl, kx_pI, kx_pL, kx_pR, kx_pA, kx_pV, kx_s1, kx_s2, kx_sl, kx_pre, kx_c2, kx_pl, kx_cmp, kx_oF, kx_eqN, kx_nil, kx_c1, kx_ft, kx_aI, kx_aL, kx_aR, kx_ln, Nat.reduceAdd, Option.toList, List.cons_append, List.nil_append, cf1_2, cf9_12, cf1_7])
      repeat' apply And.intro
      all_goals try (first | with_reducible assumption | (with_reducible refine ck_nzI ?_; simp; done) | (with_reducible refine ck_nzL ?_; simp; done) | (with_reducible refine vp_in_nI ?_ ?_ <;> first | omega | decide) | (with_reducible refine Nat.le_of_ble_eq_true ?_; rfl) | omega | exact Or.inl trivial | exact Or.inr trivial | exact Or.inl rfl | exact Or.inr rfl)
      · intro zc30
        first | exact absurd rfl zc30 | exact absurd zc30 (by decide) | exact absurd (by decide) zc30 | (exfalso; first | exact absurd zc7 (by decide) | exact absurd zc12 (by decide) | exact h12 (Decidable.not_not.mp zc30) | exact zc30 rfl) | (exfalso; simp_all; done)
      · intro zc30
        with_reducible first | have ze30 := Decidable.not_not.mp zc30 | have ze30 := zc30
        refine hB bX10_mend_33 _ _ _ _ _ _ _ kX10_mend_33 ?_
        dsimp only [bX10_mend_33, kx_wp, kx_step, kx_lI, kx_lL, kx_lA, kx_gl, kx_pI, kx_pL, kx_pR, kx_pA, kx_pV, kx_s1, kx_s2, kx_sl, kx_pre, kx_c2, kx_pl, kx_cmp, kx_oF, kx_eqN, kx_nil, kx_c1, kx_ft, kx_aI, kx_aL, kx_aR, kx_ln, Nat.reduceAdd, Option.toList, List.cons_append, List.nil_append, cf1_2, cf9_12, cf1_7]
        repeat (simp only [h64, hq, h9, h12, ks_eq, ks_ss]; try dsimp only [kx_wp, kx_step, kx_lI, kx_lL, kx_lA, kx_gl, kx_pI, kx_pL, kx_pR, kx_pA, kx_pV, kx_s1, kx_s2, kx_sl, kx_pre, kx_c2, kx_pl, kx_cmp, kx_oF, kx_eqN, kx_nil, kx_c1, kx_ft, kx_aI, kx_aL, kx_aR, kx_ln, Nat.reduceAdd, Option.toList, List.cons_append, List.nil_append, cf1_2, cf9_12, cf1_7])
        all_goals (repeat' apply And.intro)
        all_goals ((try clear hB hC); first | exact True.intro | with_reducible rfl | with_reducible assumption | (with_reducible refine vp_in_nI ?_ ?_ <;> first | omega | decide) | exact Nat.le_of_ble_eq_true rfl | (with_reducible refine ck_nzI ?_; simp; done) | (with_reducible refine ck_nzL ?_; simp; done) | (simp only [pk_us, pk_uLs, zc7, ze7, zc12, ze12, eq_true ze30, ↓reduceIte, not_true_eq_false, not_false_eq_true]; done) | (simp only [zc7, ze7, zc12, ze12, eq_true ze30, ↓reduceIte, not_true_eq_false, not_false_eq_true]; with_reducible rfl) | omega | skip)

set_option maxRecDepth 100000 in
set_option maxHeartbeats 4000000 in
theorem ct_X10_mend_z1 (l : Launch) (G : kx_G) {P : kx_P} {sz : Nat} {sv : Value} {K : Nat → Int32} (h64 : P 64 = kO 10 (kf (cr10 sv) K)) {cl : Nat} {cn : Nat → Nat} (h69 : P 69 = kR 8 (fun i => if i < cl then some (cn i) else none)) (h7 : K 7 = nI cl) (hcl : cl ≤ 8) {c : Nat} (hc : c < cl) {w : Nat} {V T Q Fo St Al Wm S C : Nat → Int32} {d : Int64} {h : Value} (H : cx_R P (cn c) w V T Q Fo St Al Wm) (hs : P (w + 5) = kI 0 64 S) (hq : P (cn c) = kO 1 (kf (cr1 (.ref w) d h) C)) (h12 : ¬ V 12 = 0) {wm : Nat} (h14 : V 14 = nI wm) (hwm : 1 ≤ wm ∧ wm ≤ 24) {a p : Nat} (hd : d = lN a) (ha : a < 86400000000) (h8 : C 8 = nI p) (hp : p < wm) {tr lf : Int32} (htr : (cx_fi (fun k => cx_sx T wm (a / 3600000000 + 1) ((p + k) % wm) (24) (0)) wm 0) = tr) (hlf : (cx_fi (fun k => cx_sx T wm (a / 3600000000 + 1) ((p + wm - k) % wm) (24) (0)) wm 0) = lf) (hz : tr = -1 ∨ lf = -1)  : kx_M l G sX10_mend 6 0 0 [.ref 64, .int (nI c), .int (1)] P sz (some (.int (-1))) P sz := by
  have h64c : 64 ≤ cn c := H.2.1
  have hne : ¬ cn c = w := by have := H.2.2.1; omega
  have h9 : P w = kO 9 (kf (cr9 w) V) := H.2.2.2.2.2.1
  have h9c : ∀ y, kx_set P (cn c) y w = kO 9 (kf (cr9 w) V) := fun y => (ks_ne (fun z => hne z.symm)).trans h9
  have hA : P 65 = kO 0 (kf cr0 Al) := H.2.2.2.2.2.2.2.2.2.2.1
  have hT : P (w + 1) = kI 0 24 T := H.2.2.2.2.2.2.1
  have hPW : cW P (cn c) w S d h C = P := by unfold cW; rw [ks_id hs, ks_id hq]
  have ha1 := ct_X1_actsToStep_t l G (sz := sz) H (S := S) (C := C) (h := h) h14 hwm hd ha h8 hp
  have ha2 := ct_X1_actsToStep_l l G (sz := sz) H (S := S) (C := C) (h := h) h14 hwm hd ha h8 hp
  rw [hPW, htr] at ha1
  rw [hPW, hlf] at ha2
  refine kx_mk kx_tab kxLok_X10 (ini := false) [some (.ref 64), some (.int (nI c)), some (.int (1)), none, none, none, none, none] ⟨by decide, rfl, by decide, by decide⟩ (⟨_, rfl⟩) rfl rfl (fun g hB hC => ?_)
  refine hB bX10_mend_0 _ _ _ _ _ _ _ kX10_mend_0 ?_
  dsimp only [bX10_mend_0, kx_wp, kx_step, kx_lI, kx_lL, kx_lA, kx_gl, kx_pI, kx_pL, kx_pR, kx_pA, kx_pV, kx_s1, kx_s2, kx_sl, kx_pre, kx_c2, kx_pl, kx_cmp, kx_oF, kx_eqN, kx_nil, kx_c1, kx_ft, kx_aI, kx_aL, kx_aR, kx_ln, Nat.reduceAdd, Option.toList, List.cons_append, List.nil_append, cf1_2, cf9_12, cf1_7]
  repeat (simp only [h64, hq, h9, ks_eq, ks_ss]; try dsimp only [kx_wp, kx_step, kx_lI, kx_lL, kx_lA, kx_gl, kx_pI, kx_pL, kx_pR, kx_pA, kx_pV, kx_s1, kx_s2, kx_sl, kx_pre, kx_c2, kx_pl, kx_cmp, kx_oF, kx_eqN, kx_nil, kx_c1, kx_ft, kx_aI, kx_aL, kx_aR, kx_ln, Nat.reduceAdd, Option.toList, List.cons_append, List.nil_append, cf1_2, cf9_12, cf1_7])
  repeat' apply And.intro
  all_goals try (first | with_reducible assumption | (with_reducible refine ck_nzI ?_; simp; done) | (with_reducible refine ck_nzL ?_; simp; done) | (with_reducible refine vp_in_nI ?_ ?_ <;> first | omega | decide) | (with_reducible refine Nat.le_of_ble_eq_true ?_; rfl) | omega | exact Or.inl trivial | exact Or.inr trivial | exact Or.inl rfl | exact Or.inr rfl)
  refine hC.1 138 _ _ _ _ _ _ _ 10 _ _ _ _ _ _ _ _ _ _ _ _ lX10_138 (ct_X10_theClock l G h64 h69 h7 hcl hc) ⟨by decide, rfl⟩ (h64) rfl rfl (Nat.le_of_ble_eq_true rfl) (by first | decide | omega) (by decide) (by omega) (by omega) dX10_mend_2 ?_
  refine hB bX10_mend_5 _ _ _ _ _ _ _ kX10_mend_5 ?_
  dsimp only [bX10_mend_5, kx_wp, kx_step, kx_lI, kx_lL, kx_lA, kx_gl, kx_pI, kx_pL, kx_pR, kx_pA, kx_pV, kx_s1, kx_s2, kx_sl, kx_pre, kx_c2, kx_pl, kx_cmp, kx_oF, kx_eqN, kx_nil, kx_c1, kx_ft, kx_aI, kx_aL, kx_aR, kx_ln, Nat.reduceAdd, Option.toList, List.cons_append, List.nil_append, cf1_2, cf9_12, cf1_7]
  repeat (simp only [h64, hq, h9, ks_eq, ks_ss]; try dsimp only [kx_wp, kx_step, kx_lI, kx_lL, kx_lA, kx_gl, kx_pI, kx_pL, kx_pR, kx_pA, kx_pV, kx_s1, kx_s2, kx_sl, kx_pre, kx_c2, kx_pl, kx_cmp, kx_oF, kx_eqN, kx_nil, kx_c1, kx_ft, kx_aI, kx_aL, kx_aR, kx_ln, Nat.reduceAdd, Option.toList, List.cons_append, List.nil_append, cf1_2, cf9_12, cf1_7])
  repeat' apply And.intro
  all_goals try (first | with_reducible assumption | (with_reducible refine ck_nzI ?_; simp; done) | (with_reducible refine ck_nzL ?_; simp; done) | (with_reducible refine vp_in_nI ?_ ?_ <;> first | omega | decide) | (with_reducible refine Nat.le_of_ble_eq_true ?_; rfl) | omega | exact Or.inl trivial | exact Or.inr trivial | exact Or.inl rfl | exact Or.inr rfl)
  · intro zc7
    first | exact absurd rfl zc7 | exact absurd zc7 (by decide) | exact absurd (by decide) zc7 | (exfalso; first | exact absurd zc7 (by decide) | exact absurd zc12 (by decide) | exact h12 (Decidable.not_not.mp zc30) | exact zc30 rfl) | (exfalso; simp_all; done)
  · intro zc7
    with_reducible first | have ze7 := Int32.not_lt.mp zc7 | have ze7 := zc7
    refine hB bX10_mend_10 _ _ _ _ _ _ _ kX10_mend_10 ?_
    dsimp only [bX10_mend_10, kx_wp, kx_step, kx_lI, kx_lL, kx_lA, kx_gl, kx_pI, kx_pL, kx_pR, kx_pA, kx_pV, kx_s1, kx_s2, kx_sl, kx_pre, kx_c2, kx_pl, kx_cmp, kx_oF, kx_eqN, kx_nil, kx_c1, kx_ft, kx_aI, kx_aL, kx_aR, kx_ln, Nat.reduceAdd, Option.toList, List.cons_append, List.nil_append, cf1_2, cf9_12, cf1_7]
    repeat (simp only [h64, hq, h9, ks_eq, ks_ss]; try dsimp only [kx_wp, kx_step, kx_lI, kx_lL, kx_lA, kx_gl, kx_pI, kx_pL, kx_pR, kx_pA, kx_pV, kx_s1, kx_s2, kx_sl, kx_pre, kx_c2, kx_pl, kx_cmp, kx_oF, kx_eqN, kx_nil, kx_c1, kx_ft, kx_aI, kx_aL, kx_aR, kx_ln, Nat.reduceAdd, Option.toList, List.cons_append, List.nil_append, cf1_2, cf9_12, cf1_7])
    repeat' apply And.intro
    all_goals try (first | with_reducible assumption | (with_reducible refine ck_nzI ?_; simp; done) | (with_reducible refine ck_nzL ?_; simp; done) | (with_reducible refine vp_in_nI ?_ ?_ <;> first | omega | decide) | (with_reducible refine Nat.le_of_ble_eq_true ?_; rfl) | omega | exact Or.inl trivial | exact Or.inr trivial | exact Or.inl rfl | exact Or.inr rfl)
    · intro zc12
      first | exact absurd rfl zc12 | exact absurd zc12 (by decide) | exact absurd (by decide) zc12 | (exfalso; first | exact absurd zc7 (by decide) | exact absurd zc12 (by decide) | exact h12 (Decidable.not_not.mp zc30) | exact zc30 rfl) | (exfalso; simp_all; done)
    · intro zc12
      with_reducible first | have ze12 := Int32.not_lt.mp zc12 | have ze12 := zc12
      refine hB bX10_mend_15 _ _ _ _ _ _ _ kX10_mend_15 ?_
      dsimp only [bX10_mend_15, kx_wp, kx_step, kx_lI, kx_lL, kx_lA, kx_gl, kx_pI, kx_pL, kx_pR, kx_pA, kx_pV, kx_s1, kx_s2, kx_sl, kx_pre, kx_c2, kx_pl, kx_cmp, kx_oF, kx_eqN, kx_nil, kx_c1, kx_ft, kx_aI, kx_aL, kx_aR, kx_ln, Nat.reduceAdd, Option.toList, List.cons_append, List.nil_append, cf1_2, cf9_12, cf1_7]
      repeat (simp only [h64, hq, h9, ks_eq, ks_ss]; try dsimp only [kx_wp, kx_step, kx_lI, kx_lL, kx_lA, kx_gl, kx_pI, kx_pL, kx_pR, kx_pA, kx_pV, kx_s1, kx_s2, kx_sl, kx_pre, kx_c2, kx_pl, kx_cmp, kx_oF, kx_eqN, kx_nil, kx_c1, kx_ft, kx_aI, kx_aL, kx_aR, kx_ln, Nat.reduceAdd, Option.toList, List.cons_append, List.nil_append, cf1_2, cf9_12, cf1_7])
      repeat' apply And.intro
      all_goals try (first | with_reducible assumption | (with_reducible refine ck_nzI ?_; simp; done) | (with_reducible refine ck_nzL ?_; simp; done) | (with_reducible refine vp_in_nI ?_ ?_ <;> first | omega | decide) | (with_reducible refine Nat.le_of_ble_eq_true ?_; rfl) | omega | exact Or.inl trivial | exact Or.inr trivial | exact Or.inl rfl | exact Or.inr rfl)
      refine hC.2.1 95 _ _ _ _ _ _ _ _ _ _ _ _ _ _ _ _ _ lX10_95 (ct_X10_need l G (b := 1) (by decide)) rfl rfl (Nat.le_of_ble_eq_true rfl) (by first | decide | omega) (by decide) (by omega) (by omega) dX10_mend_20 ?_
      refine hB bX10_mend_23 _ _ _ _ _ _ _ kX10_mend_23 ?_
      dsimp only [bX10_mend_23, kx_wp, kx_step, kx_lI, kx_lL, kx_lA, kx_gl, kx_pI, kx_pL, kx_pR, kx_pA, kx_pV, kx_s1, kx_s2, kx_sl, kx_pre, kx_c2, kx_pl, kx_cmp, kx_oF, kx_eqN, kx_nil, kx_c1, kx_ft, kx_aI, kx_aL, kx_aR, kx_ln, Nat.reduceAdd, Option.toList, List.cons_append, List.nil_append, cf1_2, cf9_12, cf1_7]
      repeat (simp only [h64, hq, h9, ks_eq, ks_ss]; try dsimp only [kx_wp, kx_step, kx_lI, kx_lL, kx_lA, kx_gl, kx_pI, kx_pL, kx_pR, kx_pA, kx_pV, kx_s1, kx_s2, kx_sl, kx_pre, kx_c2, kx_pl, kx_cmp, kx_oF, kx_eqN, kx_nil, kx_c1, kx_ft, kx_aI, kx_aL, kx_aR, kx_ln, Nat.reduceAdd, Option.toList, List.cons_append, List.nil_append, cf1_2, cf9_12, cf1_7])
      repeat' apply And.intro
      all_goals try (first | with_reducible assumption | (with_reducible refine ck_nzI ?_; simp; done) | (with_reducible refine ck_nzL ?_; simp; done) | (with_reducible refine vp_in_nI ?_ ?_ <;> first | omega | decide) | (with_reducible refine Nat.le_of_ble_eq_true ?_; rfl) | omega | exact Or.inl trivial | exact Or.inr trivial | exact Or.inl rfl | exact Or.inr rfl)
      · intro zc30
        have ze30 := zc30
        refine hB bX10_mend_35 _ _ _ _ _ _ _ kX10_mend_35 ?_
        dsimp only [bX10_mend_35, kx_wp, kx_step, kx_lI, kx_lL, kx_lA, kx_gl, kx_pI, kx_pL, kx_pR, kx_pA, kx_pV, kx_s1, kx_s2, kx_sl, kx_pre, kx_c2, kx_pl, kx_cmp, kx_oF, kx_eqN, kx_nil, kx_c1, kx_ft, kx_aI, kx_aL, kx_aR, kx_ln, Nat.reduceAdd, Option.toList, List.cons_append, List.nil_append, cf1_2, cf9_12, cf1_7]
        repeat (simp only [h64, hq, h9, ks_eq, ks_ss]; try dsimp only [kx_wp, kx_step, kx_lI, kx_lL, kx_lA, kx_gl, kx_pI, kx_pL, kx_pR, kx_pA, kx_pV, kx_s1, kx_s2, kx_sl, kx_pre, kx_c2, kx_pl, kx_cmp, kx_oF, kx_eqN, kx_nil, kx_c1, kx_ft, kx_aI, kx_aL, kx_aR, kx_ln, Nat.reduceAdd, Option.toList, List.cons_append, List.nil_append, cf1_2, cf9_12, cf1_7])
        repeat' apply And.intro
        all_goals try (first | with_reducible assumption | (with_reducible refine ck_nzI ?_; simp; done) | (with_reducible refine ck_nzL ?_; simp; done) | (with_reducible refine vp_in_nI ?_ ?_ <;> first | omega | decide) | (with_reducible refine Nat.le_of_ble_eq_true ?_; rfl) | omega | exact Or.inl trivial | exact Or.inr trivial | exact Or.inl rfl | exact Or.inr rfl)
        refine hC.1 227 _ _ _ _ _ _ _ 1 _ _ _ _ _ _ _ _ _ _ _ _ lX10_227 (ha1) ⟨by decide, rfl⟩ (hq) rfl rfl (Nat.le_of_ble_eq_true rfl) (by first | decide | omega) (by decide) (by omega) (by omega) dX10_mend_37 ?_
        refine hB bX10_mend_40 _ _ _ _ _ _ _ kX10_mend_40 ?_
        dsimp only [bX10_mend_40, kx_wp, kx_step, kx_lI, kx_lL, kx_lA, kx_gl, kx_pI, kx_pL, kx_pR, kx_pA, kx_pV, kx_s1, kx_s2, kx_sl, kx_pre, kx_c2, kx_pl, kx_cmp, kx_oF, kx_eqN, kx_nil, kx_c1, kx_ft, kx_aI, kx_aL, kx_aR, kx_ln, Nat.reduceAdd, Option.toList, List.cons_append, List.nil_append, cf1_2, cf9_12, cf1_7]
        repeat (simp only [h64, hq, h9, ks_eq, ks_ss]; try dsimp only [kx_wp, kx_step, kx_lI, kx_lL, kx_lA, kx_gl, kx_pI, kx_pL, kx_pR, kx_pA, kx_pV, kx_s1, kx_s2, kx_sl, kx_pre, kx_c2, kx_pl, kx_cmp, kx_oF, kx_eqN, kx_nil, kx_c1, kx_ft, kx_aI, kx_aL, kx_aR, kx_ln, Nat.reduceAdd, Option.toList, List.cons_append, List.nil_append, cf1_2, cf9_12, cf1_7])
        repeat' apply And.intro
        all_goals try (first | with_reducible assumption | (with_reducible refine ck_nzI ?_; simp; done) | (with_reducible refine ck_nzL ?_; simp; done) | (with_reducible refine vp_in_nI ?_ ?_ <;> first | omega | decide) | (with_reducible refine Nat.le_of_ble_eq_true ?_; rfl) | omega | exact Or.inl trivial | exact Or.inr trivial | exact Or.inl rfl | exact Or.inr rfl)
        refine hC.1 227 _ _ _ _ _ _ _ 1 _ _ _ _ _ _ _ _ _ _ _ _ lX10_227 (ha2) ⟨by decide, rfl⟩ (hq) rfl rfl (Nat.le_of_ble_eq_true rfl) (by first | decide | omega) (by decide) (by omega) (by omega) dX10_mend_44 ?_
        refine hB bX10_mend_47 _ _ _ _ _ _ _ kX10_mend_47 ?_
        dsimp only [bX10_mend_47, kx_wp, kx_step, kx_lI, kx_lL, kx_lA, kx_gl, kx_pI, kx_pL, kx_pR, kx_pA, kx_pV, kx_s1, kx_s2, kx_sl, kx_pre, kx_c2, kx_pl, kx_cmp, kx_oF, kx_eqN, kx_nil, kx_c1, kx_ft, kx_aI, kx_aL, kx_aR, kx_ln, Nat.reduceAdd, Option.toList, List.cons_append, List.nil_append, cf1_2, cf9_12, cf1_7]
        repeat (simp only [h64, hq, h9, ks_eq, ks_ss]; try dsimp only [kx_wp, kx_step, kx_lI, kx_lL, kx_lA, kx_gl, kx_pI, kx_pL, kx_pR, kx_pA, kx_pV, kx_s1, kx_s2, kx_sl, kx_pre, kx_c2, kx_pl, kx_cmp, kx_oF, kx_eqN, kx_nil, kx_c1, kx_ft, kx_aI, kx_aL, kx_aR, kx_ln, Nat.reduceAdd, Option.toList, List.cons_append, List.nil_append, cf1_2, cf9_12, cf1_7])
        repeat' apply And.intro
        all_goals try (first | with_reducible assumption | (with_reducible refine ck_nzI ?_; simp; done) | (with_reducible refine ck_nzL ?_; simp; done) | (with_reducible refine vp_in_nI ?_ ?_ <;> first | omega | decide) | (with_reducible refine Nat.le_of_ble_eq_true ?_; rfl) | omega | exact Or.inl trivial | exact Or.inr trivial | exact Or.inl rfl | exact Or.inr rfl)
        · intro zc52
          have ze52 := zc52
          refine hB bX10_mend_61 _ _ _ _ _ _ _ kX10_mend_61 ?_
          dsimp only [bX10_mend_61, kx_wp, kx_step, kx_lI, kx_lL, kx_lA, kx_gl, kx_pI, kx_pL, kx_pR, kx_pA, kx_pV, kx_s1, kx_s2, kx_sl, kx_pre, kx_c2, kx_pl, kx_cmp, kx_oF, kx_eqN, kx_nil, kx_c1, kx_ft, kx_aI, kx_aL, kx_aR, kx_ln, Nat.reduceAdd, Option.toList, List.cons_append, List.nil_append, cf1_2, cf9_12, cf1_7]
          repeat (simp only [h64, hq, h9, ks_eq, ks_ss]; try dsimp only [kx_wp, kx_step, kx_lI, kx_lL, kx_lA, kx_gl, kx_pI, kx_pL, kx_pR, kx_pA, kx_pV, kx_s1, kx_s2, kx_sl, kx_pre, kx_c2, kx_pl, kx_cmp, kx_oF, kx_eqN, kx_nil, kx_c1, kx_ft, kx_aI, kx_aL, kx_aR, kx_ln, Nat.reduceAdd, Option.toList, List.cons_append, List.nil_append, cf1_2, cf9_12, cf1_7])
          all_goals (repeat' apply And.intro)
          all_goals ((try clear hB hC); first | exact True.intro | with_reducible rfl | with_reducible assumption | (with_reducible refine vp_in_nI ?_ ?_ <;> first | omega | decide) | exact Nat.le_of_ble_eq_true rfl | (with_reducible refine ck_nzI ?_; simp; done) | (with_reducible refine ck_nzL ?_; simp; done) | (simp only [pk_us, pk_uLs, zc7, ze7, zc12, ze12, ze30, eq_true ze52, ↓reduceIte, not_true_eq_false, not_false_eq_true]; done) | (simp only [zc7, ze7, zc12, ze12, ze30, eq_true ze52, ↓reduceIte, not_true_eq_false, not_false_eq_true]; with_reducible rfl) | omega | skip)
        · intro zc52
          have ze52 := zc52
          refine hB bX10_mend_55 _ _ _ _ _ _ _ kX10_mend_55 ?_
          dsimp only [bX10_mend_55, kx_wp, kx_step, kx_lI, kx_lL, kx_lA, kx_gl, kx_pI, kx_pL, kx_pR, kx_pA, kx_pV, kx_s1, kx_s2, kx_sl, kx_pre, kx_c2, kx_pl, kx_cmp, kx_oF, kx_eqN, kx_nil, kx_c1, kx_ft, kx_aI, kx_aL, kx_aR, kx_ln, Nat.reduceAdd, Option.toList, List.cons_append, List.nil_append, cf1_2, cf9_12, cf1_7]
          repeat (simp only [h64, hq, h9, ks_eq, ks_ss]; try dsimp only [kx_wp, kx_step, kx_lI, kx_lL, kx_lA, kx_gl, kx_pI, kx_pL, kx_pR, kx_pA, kx_pV, kx_s1, kx_s2, kx_sl, kx_pre, kx_c2, kx_pl, kx_cmp, kx_oF, kx_eqN, kx_nil, kx_c1, kx_ft, kx_aI, kx_aL, kx_aR, kx_ln, Nat.reduceAdd, Option.toList, List.cons_append, List.nil_append, cf1_2, cf9_12, cf1_7])
          repeat' apply And.intro
          all_goals try (first | with_reducible assumption | (with_reducible refine ck_nzI ?_; simp; done) | (with_reducible refine ck_nzL ?_; simp; done) | (with_reducible refine vp_in_nI ?_ ?_ <;> first | omega | decide) | (with_reducible refine Nat.le_of_ble_eq_true ?_; rfl) | omega | exact Or.inl trivial | exact Or.inr trivial | exact Or.inl rfl | exact Or.inr rfl)
          · intro zc58
            have ze58 := zc58
            first | exact absurd (hz.resolve_left zc52) zc58 | exact absurd (hz.resolve_left zc52) (by assumption)
          · intro zc58
            with_reducible first | have ze58 := Decidable.not_not.mp zc58 | have ze58 := zc58
            refine hB bX10_mend_61 _ _ _ _ _ _ _ kX10_mend_61 ?_
            dsimp only [bX10_mend_61, kx_wp, kx_step, kx_lI, kx_lL, kx_lA, kx_gl, kx_pI, kx_pL, kx_pR, kx_pA, kx_pV, kx_s1, kx_s2, kx_sl, kx_pre, kx_c2, kx_pl, kx_cmp, kx_oF, kx_eqN, kx_nil, kx_c1, kx_ft, kx_aI, kx_aL, kx_aR, kx_ln, Nat.reduceAdd, Option.toList, List.cons_append, List.nil_append, cf1_2, cf9_12, cf1_7]
            repeat (simp only [h64, hq, h9, ks_eq, ks_ss]; try dsimp only [kx_wp, kx_step, kx_lI, kx_lL, kx_lA, kx_gl, kx_pI, kx_pL, kx_pR, kx_pA, kx_pV, kx_s1, kx_s2, kx_sl, kx_pre, kx_c2, kx_pl, kx_cmp, kx_oF, kx_eqN, kx_nil, kx_c1, kx_ft, kx_aI, kx_aL, kx_aR, kx_ln, Nat.reduceAdd, Option.toList, List.cons_append, List.nil_append, cf1_2, cf9_12, cf1_7])
            all_goals (repeat' apply And.intro)
            all_goals ((try clear hB hC); first | exact True.intro | with_reducible rfl | with_reducible assumption | (with_reducible refine vp_in_nI ?_ ?_ <;> first | omega | decide) | exact Nat.le_of_ble_eq_true rfl | (with_reducible refine ck_nzI ?_; simp; done) | (with_reducible refine ck_nzL ?_; simp; done) | (simp only [pk_us, pk_uLs, zc7, ze7, zc12, ze12, ze30, ze52, eq_true ze58, ↓reduceIte, not_true_eq_false, not_false_eq_true]; done) | (simp only [zc7, ze7, zc12, ze12, ze30, ze52, eq_true ze58, ↓reduceIte, not_true_eq_false, not_false_eq_true]; with_reducible rfl) | omega | skip)
      · intro zc30
        first | exact absurd rfl zc30 | exact absurd zc30 (by decide) | exact absurd (by decide) zc30 | (exfalso; first | exact absurd zc7 (by decide) | exact absurd zc12 (by decide) | exact h12 (Decidable.not_not.mp zc30) | exact zc30 rfl) | (exfalso; simp_all; done)

set_option maxRecDepth 100000 in
set_option maxHeartbeats 4000000 in
theorem ct_X10_mend_t1 (l : Launch) (G : kx_G) {P : kx_P} {sz : Nat} {sv : Value} {K : Nat → Int32} (h64 : P 64 = kO 10 (kf (cr10 sv) K)) {cl : Nat} {cn : Nat → Nat} (h69 : P 69 = kR 8 (fun i => if i < cl then some (cn i) else none)) (h7 : K 7 = nI cl) (hcl : cl ≤ 8) {c : Nat} (hc : c < cl) {w : Nat} {V T Q Fo St Al Wm S C : Nat → Int32} {d : Int64} {h : Value} (H : cx_R P (cn c) w V T Q Fo St Al Wm) (hs : P (w + 5) = kI 0 64 S) (hq : P (cn c) = kO 1 (kf (cr1 (.ref w) d h) C)) (h12 : ¬ V 12 = 0) {wm : Nat} (h14 : V 14 = nI wm) (hwm : 1 ≤ wm ∧ wm ≤ 24) {a p : Nat} (hd : d = lN a) (ha : a < 86400000000) (h8 : C 8 = nI p) (hp : p < wm) {a1 a2 : Nat} (htr : (cx_fi (fun k => cx_sx T wm (a / 3600000000 + 1) ((p + k) % wm) (24) (0)) wm 0) = nI a1) (hlf : (cx_fi (fun k => cx_sx T wm (a / 3600000000 + 1) ((p + wm - k) % wm) (24) (0)) wm 0) = nI a2) (ht24 : a1 ≤ 24) (hm1 : ¬ nI a1 = -1) (hm2 : ¬ nI a2 = -1)  : kx_M l G sX10_mend 6 0 0 [.ref 64, .int (nI c), .int (1)] P sz (some (.int (cx_md 1 (nI a1) (nI a2) (cx_ro T wm p a1) (C 7)))) P sz := by
  have h64c : 64 ≤ cn c := H.2.1
  have hne : ¬ cn c = w := by have := H.2.2.1; omega
  have h9 : P w = kO 9 (kf (cr9 w) V) := H.2.2.2.2.2.1
  have h9c : ∀ y, kx_set P (cn c) y w = kO 9 (kf (cr9 w) V) := fun y => (ks_ne (fun z => hne z.symm)).trans h9
  have hA : P 65 = kO 0 (kf cr0 Al) := H.2.2.2.2.2.2.2.2.2.2.1
  have hT : P (w + 1) = kI 0 24 T := H.2.2.2.2.2.2.1
  have hPW : cW P (cn c) w S d h C = P := by unfold cW; rw [ks_id hs, ks_id hq]
  have ha1 := ct_X1_actsToStep_t l G (sz := sz) H (S := S) (C := C) (h := h) h14 hwm hd ha h8 hp
  have ha2 := ct_X1_actsToStep_l l G (sz := sz) H (S := S) (C := C) (h := h) h14 hwm hd ha h8 hp
  rw [hPW, htr] at ha1
  rw [hPW, hlf] at ha2
  have hr9 := ct_X1_ringsOfTrips l G (sz := sz) H (S := S) (C := C) (d := d) (h := h) h14 hwm h8 hp ht24
  rw [hPW] at hr9
  refine kx_mk kx_tab kxLok_X10 (ini := false) [some (.ref 64), some (.int (nI c)), some (.int (1)), none, none, none, none, none] ⟨by decide, rfl, by decide, by decide⟩ (⟨_, rfl⟩) rfl rfl (fun g hB hC => ?_)
  refine hB bX10_mend_0 _ _ _ _ _ _ _ kX10_mend_0 ?_
  dsimp only [bX10_mend_0, kx_wp, kx_step, kx_lI, kx_lL, kx_lA, kx_gl, kx_pI, kx_pL, kx_pR, kx_pA, kx_pV, kx_s1, kx_s2, kx_sl, kx_pre, kx_c2, kx_pl, kx_cmp, kx_oF, kx_eqN, kx_nil, kx_c1, kx_ft, kx_aI, kx_aL, kx_aR, kx_ln, Nat.reduceAdd, Option.toList, List.cons_append, List.nil_append, cf1_2, cf9_12, cf1_7]
  repeat (simp only [h64, hq, h9, ks_eq, ks_ss]; try dsimp only [kx_wp, kx_step, kx_lI, kx_lL, kx_lA, kx_gl, kx_pI, kx_pL, kx_pR, kx_pA, kx_pV, kx_s1, kx_s2, kx_sl, kx_pre, kx_c2, kx_pl, kx_cmp, kx_oF, kx_eqN, kx_nil, kx_c1, kx_ft, kx_aI, kx_aL, kx_aR, kx_ln, Nat.reduceAdd, Option.toList, List.cons_append, List.nil_append, cf1_2, cf9_12, cf1_7])
  repeat' apply And.intro
  all_goals try (first | with_reducible assumption | (with_reducible refine ck_nzI ?_; simp; done) | (with_reducible refine ck_nzL ?_; simp; done) | (with_reducible refine vp_in_nI ?_ ?_ <;> first | omega | decide) | (with_reducible refine Nat.le_of_ble_eq_true ?_; rfl) | omega | exact Or.inl trivial | exact Or.inr trivial | exact Or.inl rfl | exact Or.inr rfl)
  refine hC.1 138 _ _ _ _ _ _ _ 10 _ _ _ _ _ _ _ _ _ _ _ _ lX10_138 (ct_X10_theClock l G h64 h69 h7 hcl hc) ⟨by decide, rfl⟩ (h64) rfl rfl (Nat.le_of_ble_eq_true rfl) (by first | decide | omega) (by decide) (by omega) (by omega) dX10_mend_2 ?_
  refine hB bX10_mend_5 _ _ _ _ _ _ _ kX10_mend_5 ?_
  dsimp only [bX10_mend_5, kx_wp, kx_step, kx_lI, kx_lL, kx_lA, kx_gl, kx_pI, kx_pL, kx_pR, kx_pA, kx_pV, kx_s1, kx_s2, kx_sl, kx_pre, kx_c2, kx_pl, kx_cmp, kx_oF, kx_eqN, kx_nil, kx_c1, kx_ft, kx_aI, kx_aL, kx_aR, kx_ln, Nat.reduceAdd, Option.toList, List.cons_append, List.nil_append, cf1_2, cf9_12, cf1_7]
  repeat (simp only [h64, hq, h9, ks_eq, ks_ss]; try dsimp only [kx_wp, kx_step, kx_lI, kx_lL, kx_lA, kx_gl, kx_pI, kx_pL, kx_pR, kx_pA, kx_pV, kx_s1, kx_s2, kx_sl, kx_pre, kx_c2, kx_pl, kx_cmp, kx_oF, kx_eqN, kx_nil, kx_c1, kx_ft, kx_aI, kx_aL, kx_aR, kx_ln, Nat.reduceAdd, Option.toList, List.cons_append, List.nil_append, cf1_2, cf9_12, cf1_7])
  repeat' apply And.intro
  all_goals try (first | with_reducible assumption | (with_reducible refine ck_nzI ?_; simp; done) | (with_reducible refine ck_nzL ?_; simp; done) | (with_reducible refine vp_in_nI ?_ ?_ <;> first | omega | decide) | (with_reducible refine Nat.le_of_ble_eq_true ?_; rfl) | omega | exact Or.inl trivial | exact Or.inr trivial | exact Or.inl rfl | exact Or.inr rfl)
  · intro zc7
    first | exact absurd rfl zc7 | exact absurd zc7 (by decide) | exact absurd (by decide) zc7 | (exfalso; first | exact absurd zc7 (by decide) | exact absurd zc12 (by decide) | exact h12 (Decidable.not_not.mp zc30) | exact zc30 rfl | exact hm1 zc52 | exact hm2 (Decidable.not_not.mp zc58) | exact zc101 rfl | exact absurd zc101 (by decide) | exact zc125 rfl | exact absurd zc125 (by decide)) | (exfalso; simp_all; done)
  · intro zc7
    with_reducible first | have ze7 := Int32.not_lt.mp zc7 | have ze7 := zc7
    refine hB bX10_mend_10 _ _ _ _ _ _ _ kX10_mend_10 ?_
    dsimp only [bX10_mend_10, kx_wp, kx_step, kx_lI, kx_lL, kx_lA, kx_gl, kx_pI, kx_pL, kx_pR, kx_pA, kx_pV, kx_s1, kx_s2, kx_sl, kx_pre, kx_c2, kx_pl, kx_cmp, kx_oF, kx_eqN, kx_nil, kx_c1, kx_ft, kx_aI, kx_aL, kx_aR, kx_ln, Nat.reduceAdd, Option.toList, List.cons_append, List.nil_append, cf1_2, cf9_12, cf1_7]
    repeat (simp only [h64, hq, h9, ks_eq, ks_ss]; try dsimp only [kx_wp, kx_step, kx_lI, kx_lL, kx_lA, kx_gl, kx_pI, kx_pL, kx_pR, kx_pA, kx_pV, kx_s1, kx_s2, kx_sl, kx_pre, kx_c2, kx_pl, kx_cmp, kx_oF, kx_eqN, kx_nil, kx_c1, kx_ft, kx_aI, kx_aL, kx_aR, kx_ln, Nat.reduceAdd, Option.toList, List.cons_append, List.nil_append, cf1_2, cf9_12, cf1_7])
    repeat' apply And.intro
    all_goals try (first | with_reducible assumption | (with_reducible refine ck_nzI ?_; simp; done) | (with_reducible refine ck_nzL ?_; simp; done) | (with_reducible refine vp_in_nI ?_ ?_ <;> first | omega | decide) | (with_reducible refine Nat.le_of_ble_eq_true ?_; rfl) | omega | exact Or.inl trivial | exact Or.inr trivial | exact Or.inl rfl | exact Or.inr rfl)
    · intro zc12
      first | exact absurd rfl zc12 | exact absurd zc12 (by decide) | exact absurd (by decide) zc12 | (exfalso; first | exact absurd zc7 (by decide) | exact absurd zc12 (by decide) | exact h12 (Decidable.not_not.mp zc30) | exact zc30 rfl | exact hm1 zc52 | exact hm2 (Decidable.not_not.mp zc58) | exact zc101 rfl | exact absurd zc101 (by decide) | exact zc125 rfl | exact absurd zc125 (by decide)) | (exfalso; simp_all; done)
    · intro zc12
      with_reducible first | have ze12 := Int32.not_lt.mp zc12 | have ze12 := zc12
      refine hB bX10_mend_15 _ _ _ _ _ _ _ kX10_mend_15 ?_
      dsimp only [bX10_mend_15, kx_wp, kx_step, kx_lI, kx_lL, kx_lA, kx_gl, kx_pI, kx_pL, kx_pR, kx_pA, kx_pV, kx_s1, kx_s2, kx_sl, kx_pre, kx_c2, kx_pl, kx_cmp, kx_oF, kx_eqN, kx_nil, kx_c1, kx_ft, kx_aI, kx_aL, kx_aR, kx_ln, Nat.reduceAdd, Option.toList, List.cons_append, List.nil_append, cf1_2, cf9_12, cf1_7]
      repeat (simp only [h64, hq, h9, ks_eq, ks_ss]; try dsimp only [kx_wp, kx_step, kx_lI, kx_lL, kx_lA, kx_gl, kx_pI, kx_pL, kx_pR, kx_pA, kx_pV, kx_s1, kx_s2, kx_sl, kx_pre, kx_c2, kx_pl, kx_cmp, kx_oF, kx_eqN, kx_nil, kx_c1, kx_ft, kx_aI, kx_aL, kx_aR, kx_ln, Nat.reduceAdd, Option.toList, List.cons_append, List.nil_append, cf1_2, cf9_12, cf1_7])
      repeat' apply And.intro
      all_goals try (first | with_reducible assumption | (with_reducible refine ck_nzI ?_; simp; done) | (with_reducible refine ck_nzL ?_; simp; done) | (with_reducible refine vp_in_nI ?_ ?_ <;> first | omega | decide) | (with_reducible refine Nat.le_of_ble_eq_true ?_; rfl) | omega | exact Or.inl trivial | exact Or.inr trivial | exact Or.inl rfl | exact Or.inr rfl)
      refine hC.2.1 95 _ _ _ _ _ _ _ _ _ _ _ _ _ _ _ _ _ lX10_95 (ct_X10_need l G (b := 1) (by decide)) rfl rfl (Nat.le_of_ble_eq_true rfl) (by first | decide | omega) (by decide) (by omega) (by omega) dX10_mend_20 ?_
      refine hB bX10_mend_23 _ _ _ _ _ _ _ kX10_mend_23 ?_
      dsimp only [bX10_mend_23, kx_wp, kx_step, kx_lI, kx_lL, kx_lA, kx_gl, kx_pI, kx_pL, kx_pR, kx_pA, kx_pV, kx_s1, kx_s2, kx_sl, kx_pre, kx_c2, kx_pl, kx_cmp, kx_oF, kx_eqN, kx_nil, kx_c1, kx_ft, kx_aI, kx_aL, kx_aR, kx_ln, Nat.reduceAdd, Option.toList, List.cons_append, List.nil_append, cf1_2, cf9_12, cf1_7]
      repeat (simp only [h64, hq, h9, ks_eq, ks_ss]; try dsimp only [kx_wp, kx_step, kx_lI, kx_lL, kx_lA, kx_gl, kx_pI, kx_pL, kx_pR, kx_pA, kx_pV, kx_s1, kx_s2, kx_sl, kx_pre, kx_c2, kx_pl, kx_cmp, kx_oF, kx_eqN, kx_nil, kx_c1, kx_ft, kx_aI, kx_aL, kx_aR, kx_ln, Nat.reduceAdd, Option.toList, List.cons_append, List.nil_append, cf1_2, cf9_12, cf1_7])
      repeat' apply And.intro
      all_goals try (first | with_reducible assumption | (with_reducible refine ck_nzI ?_; simp; done) | (with_reducible refine ck_nzL ?_; simp; done) | (with_reducible refine vp_in_nI ?_ ?_ <;> first | omega | decide) | (with_reducible refine Nat.le_of_ble_eq_true ?_; rfl) | omega | exact Or.inl trivial | exact Or.inr trivial | exact Or.inl rfl | exact Or.inr rfl)
      · intro zc30
        have ze30 := zc30
        refine hB bX10_mend_35 _ _ _ _ _ _ _ kX10_mend_35 ?_
        dsimp only [bX10_mend_35, kx_wp, kx_step, kx_lI, kx_lL, kx_lA, kx_gl, kx_pI, kx_pL, kx_pR, kx_pA, kx_pV, kx_s1, kx_s2, kx_sl, kx_pre, kx_c2, kx_pl, kx_cmp, kx_oF, kx_eqN, kx_nil, kx_c1, kx_ft, kx_aI, kx_aL, kx_aR, kx_ln, Nat.reduceAdd, Option.toList, List.cons_append, List.nil_append, cf1_2, cf9_12, cf1_7]
        repeat (simp only [h64, hq, h9, ks_eq, ks_ss]; try dsimp only [kx_wp, kx_step, kx_lI, kx_lL, kx_lA, kx_gl, kx_pI, kx_pL, kx_pR, kx_pA, kx_pV, kx_s1, kx_s2, kx_sl, kx_pre, kx_c2, kx_pl, kx_cmp, kx_oF, kx_eqN, kx_nil, kx_c1, kx_ft, kx_aI, kx_aL, kx_aR, kx_ln, Nat.reduceAdd, Option.toList, List.cons_append, List.nil_append, cf1_2, cf9_12, cf1_7])
        repeat' apply And.intro
        all_goals try (first | with_reducible assumption | (with_reducible refine ck_nzI ?_; simp; done) | (with_reducible refine ck_nzL ?_; simp; done) | (with_reducible refine vp_in_nI ?_ ?_ <;> first | omega | decide) | (with_reducible refine Nat.le_of_ble_eq_true ?_; rfl) | omega | exact Or.inl trivial | exact Or.inr trivial | exact Or.inl rfl | exact Or.inr rfl)
        refine hC.1 227 _ _ _ _ _ _ _ 1 _ _ _ _ _ _ _ _ _ _ _ _ lX10_227 (ha1) ⟨by decide, rfl⟩ (hq) rfl rfl (Nat.le_of_ble_eq_true rfl) (by first | decide | omega) (by decide) (by omega) (by omega) dX10_mend_37 ?_
        refine hB bX10_mend_40 _ _ _ _ _ _ _ kX10_mend_40 ?_
        dsimp only [bX10_mend_40, kx_wp, kx_step, kx_lI, kx_lL, kx_lA, kx_gl, kx_pI, kx_pL, kx_pR, kx_pA, kx_pV, kx_s1, kx_s2, kx_sl, kx_pre, kx_c2, kx_pl, kx_cmp, kx_oF, kx_eqN, kx_nil, kx_c1, kx_ft, kx_aI, kx_aL, kx_aR, kx_ln, Nat.reduceAdd, Option.toList, List.cons_append, List.nil_append, cf1_2, cf9_12, cf1_7]
        repeat (simp only [h64, hq, h9, ks_eq, ks_ss]; try dsimp only [kx_wp, kx_step, kx_lI, kx_lL, kx_lA, kx_gl, kx_pI, kx_pL, kx_pR, kx_pA, kx_pV, kx_s1, kx_s2, kx_sl, kx_pre, kx_c2, kx_pl, kx_cmp, kx_oF, kx_eqN, kx_nil, kx_c1, kx_ft, kx_aI, kx_aL, kx_aR, kx_ln, Nat.reduceAdd, Option.toList, List.cons_append, List.nil_append, cf1_2, cf9_12, cf1_7])
        repeat' apply And.intro
        all_goals try (first | with_reducible assumption | (with_reducible refine ck_nzI ?_; simp; done) | (with_reducible refine ck_nzL ?_; simp; done) | (with_reducible refine vp_in_nI ?_ ?_ <;> first | omega | decide) | (with_reducible refine Nat.le_of_ble_eq_true ?_; rfl) | omega | exact Or.inl trivial | exact Or.inr trivial | exact Or.inl rfl | exact Or.inr rfl)
        refine hC.1 227 _ _ _ _ _ _ _ 1 _ _ _ _ _ _ _ _ _ _ _ _ lX10_227 (ha2) ⟨by decide, rfl⟩ (hq) rfl rfl (Nat.le_of_ble_eq_true rfl) (by first | decide | omega) (by decide) (by omega) (by omega) dX10_mend_44 ?_
        refine hB bX10_mend_47 _ _ _ _ _ _ _ kX10_mend_47 ?_
        dsimp only [bX10_mend_47, kx_wp, kx_step, kx_lI, kx_lL, kx_lA, kx_gl, kx_pI, kx_pL, kx_pR, kx_pA, kx_pV, kx_s1, kx_s2, kx_sl, kx_pre, kx_c2, kx_pl, kx_cmp, kx_oF, kx_eqN, kx_nil, kx_c1, kx_ft, kx_aI, kx_aL, kx_aR, kx_ln, Nat.reduceAdd, Option.toList, List.cons_append, List.nil_append, cf1_2, cf9_12, cf1_7]
        repeat (simp only [h64, hq, h9, ks_eq, ks_ss]; try dsimp only [kx_wp, kx_step, kx_lI, kx_lL, kx_lA, kx_gl, kx_pI, kx_pL, kx_pR, kx_pA, kx_pV, kx_s1, kx_s2, kx_sl, kx_pre, kx_c2, kx_pl, kx_cmp, kx_oF, kx_eqN, kx_nil, kx_c1, kx_ft, kx_aI, kx_aL, kx_aR, kx_ln, Nat.reduceAdd, Option.toList, List.cons_append, List.nil_append, cf1_2, cf9_12, cf1_7])
        repeat' apply And.intro
        all_goals try (first | with_reducible assumption | (with_reducible refine ck_nzI ?_; simp; done) | (with_reducible refine ck_nzL ?_; simp; done) | (with_reducible refine vp_in_nI ?_ ?_ <;> first | omega | decide) | (with_reducible refine Nat.le_of_ble_eq_true ?_; rfl) | omega | exact Or.inl trivial | exact Or.inr trivial | exact Or.inl rfl | exact Or.inr rfl)
        · intro zc52
          first | exact absurd rfl zc52 | exact absurd zc52 (by decide) | exact absurd (by decide) zc52 | (exfalso; first | exact absurd zc7 (by decide) | exact absurd zc12 (by decide) | exact h12 (Decidable.not_not.mp zc30) | exact zc30 rfl | exact hm1 zc52 | exact hm2 (Decidable.not_not.mp zc58) | exact zc101 rfl | exact absurd zc101 (by decide) | exact zc125 rfl | exact absurd zc125 (by decide)) | (exfalso; simp_all; done)
        · intro zc52
          have ze52 := zc52
          refine hB bX10_mend_55 _ _ _ _ _ _ _ kX10_mend_55 ?_
          dsimp only [bX10_mend_55, kx_wp, kx_step, kx_lI, kx_lL, kx_lA, kx_gl, kx_pI, kx_pL, kx_pR, kx_pA, kx_pV, kx_s1, kx_s2, kx_sl, kx_pre, kx_c2, kx_pl, kx_cmp, kx_oF, kx_eqN, kx_nil, kx_c1, kx_ft, kx_aI, kx_aL, kx_aR, kx_ln, Nat.reduceAdd, Option.toList, List.cons_append, List.nil_append, cf1_2, cf9_12, cf1_7]
          repeat (simp only [h64, hq, h9, ks_eq, ks_ss]; try dsimp only [kx_wp, kx_step, kx_lI, kx_lL, kx_lA, kx_gl, kx_pI, kx_pL, kx_pR, kx_pA, kx_pV, kx_s1, kx_s2, kx_sl, kx_pre, kx_c2, kx_pl, kx_cmp, kx_oF, kx_eqN, kx_nil, kx_c1, kx_ft, kx_aI, kx_aL, kx_aR, kx_ln, Nat.reduceAdd, Option.toList, List.cons_append, List.nil_append, cf1_2, cf9_12, cf1_7])
          repeat' apply And.intro
          all_goals try (first | with_reducible assumption | (with_reducible refine ck_nzI ?_; simp; done) | (with_reducible refine ck_nzL ?_; simp; done) | (with_reducible refine vp_in_nI ?_ ?_ <;> first | omega | decide) | (with_reducible refine Nat.le_of_ble_eq_true ?_; rfl) | omega | exact Or.inl trivial | exact Or.inr trivial | exact Or.inl rfl | exact Or.inr rfl)
          · intro zc58
            have ze58 := zc58
            refine hB bX10_mend_63 _ _ _ _ _ _ _ kX10_mend_63 ?_
            dsimp only [bX10_mend_63, kx_wp, kx_step, kx_lI, kx_lL, kx_lA, kx_gl, kx_pI, kx_pL, kx_pR, kx_pA, kx_pV, kx_s1, kx_s2, kx_sl, kx_pre, kx_c2, kx_pl, kx_cmp, kx_oF, kx_eqN, kx_nil, kx_c1, kx_ft, kx_aI, kx_aL, kx_aR, kx_ln, Nat.reduceAdd, Option.toList, List.cons_append, List.nil_append, cf1_2, cf9_12, cf1_7]
            repeat (simp only [h64, hq, h9, ks_eq, ks_ss]; try dsimp only [kx_wp, kx_step, kx_lI, kx_lL, kx_lA, kx_gl, kx_pI, kx_pL, kx_pR, kx_pA, kx_pV, kx_s1, kx_s2, kx_sl, kx_pre, kx_c2, kx_pl, kx_cmp, kx_oF, kx_eqN, kx_nil, kx_c1, kx_ft, kx_aI, kx_aL, kx_aR, kx_ln, Nat.reduceAdd, Option.toList, List.cons_append, List.nil_append, cf1_2, cf9_12, cf1_7])
            repeat' apply And.intro
            all_goals try (first | with_reducible assumption | (with_reducible refine ck_nzI ?_; simp; done) | (with_reducible refine ck_nzL ?_; simp; done) | (with_reducible refine vp_in_nI ?_ ?_ <;> first | omega | decide) | (with_reducible refine Nat.le_of_ble_eq_true ?_; rfl) | omega | exact Or.inl trivial | exact Or.inr trivial | exact Or.inl rfl | exact Or.inr rfl)
            refine hC.1 230 _ _ _ _ _ _ _ 1 _ _ _ _ _ _ _ _ _ _ _ _ lX10_230 (hr9) ⟨by decide, rfl⟩ (hq) rfl rfl (Nat.le_of_ble_eq_true rfl) (by first | decide | omega) (by decide) (by omega) (by omega) dX10_mend_66 ?_
            refine hB bX10_mend_69 _ _ _ _ _ _ _ kX10_mend_69 ?_
            dsimp only [bX10_mend_69, kx_wp, kx_step, kx_lI, kx_lL, kx_lA, kx_gl, kx_pI, kx_pL, kx_pR, kx_pA, kx_pV, kx_s1, kx_s2, kx_sl, kx_pre, kx_c2, kx_pl, kx_cmp, kx_oF, kx_eqN, kx_nil, kx_c1, kx_ft, kx_aI, kx_aL, kx_aR, kx_ln, Nat.reduceAdd, Option.toList, List.cons_append, List.nil_append, cf1_2, cf9_12, cf1_7]
            repeat (simp only [h64, hq, h9, ks_eq, ks_ss]; try dsimp only [kx_wp, kx_step, kx_lI, kx_lL, kx_lA, kx_gl, kx_pI, kx_pL, kx_pR, kx_pA, kx_pV, kx_s1, kx_s2, kx_sl, kx_pre, kx_c2, kx_pl, kx_cmp, kx_oF, kx_eqN, kx_nil, kx_c1, kx_ft, kx_aI, kx_aL, kx_aR, kx_ln, Nat.reduceAdd, Option.toList, List.cons_append, List.nil_append, cf1_2, cf9_12, cf1_7])
            repeat' apply And.intro
            all_goals try (first | with_reducible assumption | (with_reducible refine ck_nzI ?_; simp; done) | (with_reducible refine ck_nzL ?_; simp; done) | (with_reducible refine vp_in_nI ?_ ?_ <;> first | omega | decide) | (with_reducible refine Nat.le_of_ble_eq_true ?_; rfl) | omega | exact Or.inl trivial | exact Or.inr trivial | exact Or.inl rfl | exact Or.inr rfl)
            · intro zc77
              with_reducible first | have ze77 := Int32.not_le.mpr zc77 | have ze77 := zc77
              refine hB bX10_mend_93 _ _ _ _ _ _ _ kX10_mend_93 ?_
              dsimp only [bX10_mend_93, kx_wp, kx_step, kx_lI, kx_lL, kx_lA, kx_gl, kx_pI, kx_pL, kx_pR, kx_pA, kx_pV, kx_s1, kx_s2, kx_sl, kx_pre, kx_c2, kx_pl, kx_cmp, kx_oF, kx_eqN, kx_nil, kx_c1, kx_ft, kx_aI, kx_aL, kx_aR, kx_ln, Nat.reduceAdd, Option.toList, List.cons_append, List.nil_append, cf1_2, cf9_12, cf1_7]
              repeat (simp only [h64, hq, h9, ks_eq, ks_ss]; try dsimp only [kx_wp, kx_step, kx_lI, kx_lL, kx_lA, kx_gl, kx_pI, kx_pL, kx_pR, kx_pA, kx_pV, kx_s1, kx_s2, kx_sl, kx_pre, kx_c2, kx_pl, kx_cmp, kx_oF, kx_eqN, kx_nil, kx_c1, kx_ft, kx_aI, kx_aL, kx_aR, kx_ln, Nat.reduceAdd, Option.toList, List.cons_append, List.nil_append, cf1_2, cf9_12, cf1_7])
              repeat' apply And.intro
              all_goals try (first | with_reducible assumption | (with_reducible refine ck_nzI ?_; simp; done) | (with_reducible refine ck_nzL ?_; simp; done) | (with_reducible refine vp_in_nI ?_ ?_ <;> first | omega | decide) | (with_reducible refine Nat.le_of_ble_eq_true ?_; rfl) | omega | exact Or.inl trivial | exact Or.inr trivial | exact Or.inl rfl | exact Or.inr rfl)
              refine hB bX10_mend_98 _ _ _ _ _ _ _ kX10_mend_98 ?_
              dsimp only [bX10_mend_98, kx_wp, kx_step, kx_lI, kx_lL, kx_lA, kx_gl, kx_pI, kx_pL, kx_pR, kx_pA, kx_pV, kx_s1, kx_s2, kx_sl, kx_pre, kx_c2, kx_pl, kx_cmp, kx_oF, kx_eqN, kx_nil, kx_c1, kx_ft, kx_aI, kx_aL, kx_aR, kx_ln, Nat.reduceAdd, Option.toList, List.cons_append, List.nil_append, cf1_2, cf9_12, cf1_7]
              repeat (simp only [h64, hq, h9, ks_eq, ks_ss]; try dsimp only [kx_wp, kx_step, kx_lI, kx_lL, kx_lA, kx_gl, kx_pI, kx_pL, kx_pR, kx_pA, kx_pV, kx_s1, kx_s2, kx_sl, kx_pre, kx_c2, kx_pl, kx_cmp, kx_oF, kx_eqN, kx_nil, kx_c1, kx_ft, kx_aI, kx_aL, kx_aR, kx_ln, Nat.reduceAdd, Option.toList, List.cons_append, List.nil_append, cf1_2, cf9_12, cf1_7])
              repeat' apply And.intro
              all_goals try (first | with_reducible assumption | (with_reducible refine ck_nzI ?_; simp; done) | (with_reducible refine ck_nzL ?_; simp; done) | (with_reducible refine vp_in_nI ?_ ?_ <;> first | omega | decide) | (with_reducible refine Nat.le_of_ble_eq_true ?_; rfl) | omega | exact Or.inl trivial | exact Or.inr trivial | exact Or.inl rfl | exact Or.inr rfl)
              · intro zc101
                have ze101 := zc101
                refine hB bX10_mend_123 _ _ _ _ _ _ _ kX10_mend_123 ?_
                dsimp only [bX10_mend_123, kx_wp, kx_step, kx_lI, kx_lL, kx_lA, kx_gl, kx_pI, kx_pL, kx_pR, kx_pA, kx_pV, kx_s1, kx_s2, kx_sl, kx_pre, kx_c2, kx_pl, kx_cmp, kx_oF, kx_eqN, kx_nil, kx_c1, kx_ft, kx_aI, kx_aL, kx_aR, kx_ln, Nat.reduceAdd, Option.toList, List.cons_append, List.nil_append, cf1_2, cf9_12, cf1_7]
                repeat (simp only [h64, hq, h9, ks_eq, ks_ss]; try dsimp only [kx_wp, kx_step, kx_lI, kx_lL, kx_lA, kx_gl, kx_pI, kx_pL, kx_pR, kx_pA, kx_pV, kx_s1, kx_s2, kx_sl, kx_pre, kx_c2, kx_pl, kx_cmp, kx_oF, kx_eqN, kx_nil, kx_c1, kx_ft, kx_aI, kx_aL, kx_aR, kx_ln, Nat.reduceAdd, Option.toList, List.cons_append, List.nil_append, cf1_2, cf9_12, cf1_7])
                repeat' apply And.intro
                all_goals try (first | with_reducible assumption | (with_reducible refine ck_nzI ?_; simp; done) | (with_reducible refine ck_nzL ?_; simp; done) | (with_reducible refine vp_in_nI ?_ ?_ <;> first | omega | decide) | (with_reducible refine Nat.le_of_ble_eq_true ?_; rfl) | omega | exact Or.inl trivial | exact Or.inr trivial | exact Or.inl rfl | exact Or.inr rfl)
                · intro zc125
                  first | exact absurd rfl zc125 | exact absurd zc125 (by decide) | exact absurd (by decide) zc125 | (exfalso; first | exact absurd zc7 (by decide) | exact absurd zc12 (by decide) | exact h12 (Decidable.not_not.mp zc30) | exact zc30 rfl | exact hm1 zc52 | exact hm2 (Decidable.not_not.mp zc58) | exact zc101 rfl | exact absurd zc101 (by decide) | exact zc125 rfl | exact absurd zc125 (by decide)) | (exfalso; simp_all; done)
                · intro zc125
                  with_reducible first | have ze125 := Decidable.not_not.mp zc125 | have ze125 := zc125
                  refine hB bX10_mend_128 _ _ _ _ _ _ _ kX10_mend_128 ?_
                  dsimp only [bX10_mend_128, kx_wp, kx_step, kx_lI, kx_lL, kx_lA, kx_gl, kx_pI, kx_pL, kx_pR, kx_pA, kx_pV, kx_s1, kx_s2, kx_sl, kx_pre, kx_c2, kx_pl, kx_cmp, kx_oF, kx_eqN, kx_nil, kx_c1, kx_ft, kx_aI, kx_aL, kx_aR, kx_ln, Nat.reduceAdd, Option.toList, List.cons_append, List.nil_append, cf1_2, cf9_12, cf1_7]
                  repeat (simp only [h64, hq, h9, ks_eq, ks_ss]; try dsimp only [kx_wp, kx_step, kx_lI, kx_lL, kx_lA, kx_gl, kx_pI, kx_pL, kx_pR, kx_pA, kx_pV, kx_s1, kx_s2, kx_sl, kx_pre, kx_c2, kx_pl, kx_cmp, kx_oF, kx_eqN, kx_nil, kx_c1, kx_ft, kx_aI, kx_aL, kx_aR, kx_ln, Nat.reduceAdd, Option.toList, List.cons_append, List.nil_append, cf1_2, cf9_12, cf1_7])
                  repeat' apply And.intro
                  all_goals try (first | with_reducible assumption | (with_reducible refine ck_nzI ?_; simp; done) | (with_reducible refine ck_nzL ?_; simp; done) | (with_reducible refine vp_in_nI ?_ ?_ <;> first | omega | decide) | (with_reducible refine Nat.le_of_ble_eq_true ?_; rfl) | omega | exact Or.inl trivial | exact Or.inr trivial | exact Or.inl rfl | exact Or.inr rfl)
                  · intro zc130
                    have ze130 := zc130
                    refine hB bX10_mend_138 _ _ _ _ _ _ _ kX10_mend_138 ?_
                    dsimp only [bX10_mend_138, kx_wp, kx_step, kx_lI, kx_lL, kx_lA, kx_gl, kx_pI, kx_pL, kx_pR, kx_pA, kx_pV, kx_s1, kx_s2, kx_sl, kx_pre, kx_c2, kx_pl, kx_cmp, kx_oF, kx_eqN, kx_nil, kx_c1, kx_ft, kx_aI, kx_aL, kx_aR, kx_ln, Nat.reduceAdd, Option.toList, List.cons_append, List.nil_append, cf1_2, cf9_12, cf1_7]
                    repeat (simp only [h64, hq, h9, ks_eq, ks_ss]; try dsimp only [kx_wp, kx_step, kx_lI, kx_lL, kx_lA, kx_gl, kx_pI, kx_pL, kx_pR, kx_pA, kx_pV, kx_s1, kx_s2, kx_sl, kx_pre, kx_c2, kx_pl, kx_cmp, kx_oF, kx_eqN, kx_nil, kx_c1, kx_ft, kx_aI, kx_aL, kx_aR, kx_ln, Nat.reduceAdd, Option.toList, List.cons_append, List.nil_append, cf1_2, cf9_12, cf1_7])
                    repeat' apply And.intro
                    all_goals try (first | with_reducible assumption | (with_reducible refine ck_nzI ?_; simp; done) | (with_reducible refine ck_nzL ?_; simp; done) | (with_reducible refine vp_in_nI ?_ ?_ <;> first | omega | decide) | (with_reducible refine Nat.le_of_ble_eq_true ?_; rfl) | omega | exact Or.inl trivial | exact Or.inr trivial | exact Or.inl rfl | exact Or.inr rfl)
                    refine hB bX10_mend_140 _ _ _ _ _ _ _ kX10_mend_140 ?_
                    dsimp only [bX10_mend_140, kx_wp, kx_step, kx_lI, kx_lL, kx_lA, kx_gl, kx_pI, kx_pL, kx_pR, kx_pA, kx_pV, kx_s1, kx_s2, kx_sl, kx_pre, kx_c2, kx_pl, kx_cmp, kx_oF, kx_eqN, kx_nil, kx_c1, kx_ft, kx_aI, kx_aL, kx_aR, kx_ln, Nat.reduceAdd, Option.toList, List.cons_append, List.nil_append, cf1_2, cf9_12, cf1_7]
                    repeat (simp only [h64, hq, h9, ks_eq, ks_ss]; try dsimp only [kx_wp, kx_step, kx_lI, kx_lL, kx_lA, kx_gl, kx_pI, kx_pL, kx_pR, kx_pA, kx_pV, kx_s1, kx_s2, kx_sl, kx_pre, kx_c2, kx_pl, kx_cmp, kx_oF, kx_eqN, kx_nil, kx_c1, kx_ft, kx_aI, kx_aL, kx_aR, kx_ln, Nat.reduceAdd, Option.toList, List.cons_append, List.nil_append, cf1_2, cf9_12, cf1_7])
                    all_goals (repeat' apply And.intro)
                    all_goals ((try clear hB hC); first | exact True.intro | first | exact absurd zc106 (by decide) | exact absurd rfl zc106 | exact absurd zc130 (by decide) | exact absurd rfl zc130 | exact absurd zc143 (by decide) | exact absurd rfl zc143 | exact absurd zc101 (by decide) | exact absurd rfl zc101 | exact absurd zc125 (by decide) | exact absurd rfl zc125 | (simp only [cx_md, zc7, ze7, zc12, ze12, ze30, ze52, ze58, zc77, ze77, ze101, eq_true ze125, eq_true ze130, ↓reduceIte, Nat.reduceEqDiff, OfNat.ofNat_ne_zero, OfNat.ofNat_ne_one, Nat.succ_ne_zero]; done) | (simp only [cx_md, zc7, ze7, zc12, ze12, ze30, ze52, ze58, zc77, ze77, ze101, eq_true ze125, eq_true ze130, ↓reduceIte]; done) | (simp only [cx_md, zc7, ze7, zc12, ze12, ze30, ze52, ze58, zc77, ze77, ze101, eq_true ze125, eq_true ze130, ↓reduceIte]; rfl) | (unfold cx_md; simp only [zc7, ze7, zc12, ze12, ze30, ze52, ze58, zc77, ze77, ze101, eq_true ze125, eq_true ze130, ↓reduceIte]; rfl))
                  · intro zc130
                    have ze130 := zc130
                    refine hB bX10_mend_133 _ _ _ _ _ _ _ kX10_mend_133 ?_
                    dsimp only [bX10_mend_133, kx_wp, kx_step, kx_lI, kx_lL, kx_lA, kx_gl, kx_pI, kx_pL, kx_pR, kx_pA, kx_pV, kx_s1, kx_s2, kx_sl, kx_pre, kx_c2, kx_pl, kx_cmp, kx_oF, kx_eqN, kx_nil, kx_c1, kx_ft, kx_aI, kx_aL, kx_aR, kx_ln, Nat.reduceAdd, Option.toList, List.cons_append, List.nil_append, cf1_2, cf9_12, cf1_7]
                    repeat (simp only [h64, hq, h9, ks_eq, ks_ss]; try dsimp only [kx_wp, kx_step, kx_lI, kx_lL, kx_lA, kx_gl, kx_pI, kx_pL, kx_pR, kx_pA, kx_pV, kx_s1, kx_s2, kx_sl, kx_pre, kx_c2, kx_pl, kx_cmp, kx_oF, kx_eqN, kx_nil, kx_c1, kx_ft, kx_aI, kx_aL, kx_aR, kx_ln, Nat.reduceAdd, Option.toList, List.cons_append, List.nil_append, cf1_2, cf9_12, cf1_7])
                    repeat' apply And.intro
                    all_goals try (first | with_reducible assumption | (with_reducible refine ck_nzI ?_; simp; done) | (with_reducible refine ck_nzL ?_; simp; done) | (with_reducible refine vp_in_nI ?_ ?_ <;> first | omega | decide) | (with_reducible refine Nat.le_of_ble_eq_true ?_; rfl) | omega | exact Or.inl trivial | exact Or.inr trivial | exact Or.inl rfl | exact Or.inr rfl)
                    refine hB bX10_mend_140 _ _ _ _ _ _ _ kX10_mend_140 ?_
                    dsimp only [bX10_mend_140, kx_wp, kx_step, kx_lI, kx_lL, kx_lA, kx_gl, kx_pI, kx_pL, kx_pR, kx_pA, kx_pV, kx_s1, kx_s2, kx_sl, kx_pre, kx_c2, kx_pl, kx_cmp, kx_oF, kx_eqN, kx_nil, kx_c1, kx_ft, kx_aI, kx_aL, kx_aR, kx_ln, Nat.reduceAdd, Option.toList, List.cons_append, List.nil_append, cf1_2, cf9_12, cf1_7]
                    repeat (simp only [h64, hq, h9, ks_eq, ks_ss]; try dsimp only [kx_wp, kx_step, kx_lI, kx_lL, kx_lA, kx_gl, kx_pI, kx_pL, kx_pR, kx_pA, kx_pV, kx_s1, kx_s2, kx_sl, kx_pre, kx_c2, kx_pl, kx_cmp, kx_oF, kx_eqN, kx_nil, kx_c1, kx_ft, kx_aI, kx_aL, kx_aR, kx_ln, Nat.reduceAdd, Option.toList, List.cons_append, List.nil_append, cf1_2, cf9_12, cf1_7])
                    all_goals (repeat' apply And.intro)
                    all_goals ((try clear hB hC); first | exact True.intro | first | exact absurd zc106 (by decide) | exact absurd rfl zc106 | exact absurd zc130 (by decide) | exact absurd rfl zc130 | exact absurd zc143 (by decide) | exact absurd rfl zc143 | exact absurd zc101 (by decide) | exact absurd rfl zc101 | exact absurd zc125 (by decide) | exact absurd rfl zc125 | (simp only [cx_md, zc7, ze7, zc12, ze12, ze30, ze52, ze58, zc77, ze77, ze101, eq_true ze125, ze130, ↓reduceIte, Nat.reduceEqDiff, OfNat.ofNat_ne_zero, OfNat.ofNat_ne_one, Nat.succ_ne_zero]; done) | (simp only [cx_md, zc7, ze7, zc12, ze12, ze30, ze52, ze58, zc77, ze77, ze101, eq_true ze125, ze130, ↓reduceIte]; done) | (simp only [cx_md, zc7, ze7, zc12, ze12, ze30, ze52, ze58, zc77, ze77, ze101, eq_true ze125, ze130, ↓reduceIte]; rfl) | (unfold cx_md; simp only [zc7, ze7, zc12, ze12, ze30, ze52, ze58, zc77, ze77, ze101, eq_true ze125, ze130, ↓reduceIte]; rfl))
              · intro zc101
                first | exact absurd rfl zc101 | exact absurd zc101 (by decide) | exact absurd (by decide) zc101 | (exfalso; first | exact absurd zc7 (by decide) | exact absurd zc12 (by decide) | exact h12 (Decidable.not_not.mp zc30) | exact zc30 rfl | exact hm1 zc52 | exact hm2 (Decidable.not_not.mp zc58) | exact zc101 rfl | exact absurd zc101 (by decide) | exact zc125 rfl | exact absurd zc125 (by decide)) | (exfalso; simp_all; done)
            · intro zc77
              with_reducible first | have ze77 := Int32.not_lt.mp zc77 | have ze77 := zc77
              refine hB bX10_mend_80 _ _ _ _ _ _ _ kX10_mend_80 ?_
              dsimp only [bX10_mend_80, kx_wp, kx_step, kx_lI, kx_lL, kx_lA, kx_gl, kx_pI, kx_pL, kx_pR, kx_pA, kx_pV, kx_s1, kx_s2, kx_sl, kx_pre, kx_c2, kx_pl, kx_cmp, kx_oF, kx_eqN, kx_nil, kx_c1, kx_ft, kx_aI, kx_aL, kx_aR, kx_ln, Nat.reduceAdd, Option.toList, List.cons_append, List.nil_append, cf1_2, cf9_12, cf1_7]
              repeat (simp only [h64, hq, h9, ks_eq, ks_ss]; try dsimp only [kx_wp, kx_step, kx_lI, kx_lL, kx_lA, kx_gl, kx_pI, kx_pL, kx_pR, kx_pA, kx_pV, kx_s1, kx_s2, kx_sl, kx_pre, kx_c2, kx_pl, kx_cmp, kx_oF, kx_eqN, kx_nil, kx_c1, kx_ft, kx_aI, kx_aL, kx_aR, kx_ln, Nat.reduceAdd, Option.toList, List.cons_append, List.nil_append, cf1_2, cf9_12, cf1_7])
              repeat' apply And.intro
              all_goals try (first | with_reducible assumption | (with_reducible refine ck_nzI ?_; simp; done) | (with_reducible refine ck_nzL ?_; simp; done) | (with_reducible refine vp_in_nI ?_ ?_ <;> first | omega | decide) | (with_reducible refine Nat.le_of_ble_eq_true ?_; rfl) | omega | exact Or.inl trivial | exact Or.inr trivial | exact Or.inl rfl | exact Or.inr rfl)
              · intro zc90
                with_reducible first | have ze90 := Int32.not_lt.mpr zc90 | have ze90 := zc90
                refine hB bX10_mend_97 _ _ _ _ _ _ _ kX10_mend_97 ?_
                dsimp only [bX10_mend_97, kx_wp, kx_step, kx_lI, kx_lL, kx_lA, kx_gl, kx_pI, kx_pL, kx_pR, kx_pA, kx_pV, kx_s1, kx_s2, kx_sl, kx_pre, kx_c2, kx_pl, kx_cmp, kx_oF, kx_eqN, kx_nil, kx_c1, kx_ft, kx_aI, kx_aL, kx_aR, kx_ln, Nat.reduceAdd, Option.toList, List.cons_append, List.nil_append, cf1_2, cf9_12, cf1_7]
                repeat (simp only [h64, hq, h9, ks_eq, ks_ss]; try dsimp only [kx_wp, kx_step, kx_lI, kx_lL, kx_lA, kx_gl, kx_pI, kx_pL, kx_pR, kx_pA, kx_pV, kx_s1, kx_s2, kx_sl, kx_pre, kx_c2, kx_pl, kx_cmp, kx_oF, kx_eqN, kx_nil, kx_c1, kx_ft, kx_aI, kx_aL, kx_aR, kx_ln, Nat.reduceAdd, Option.toList, List.cons_append, List.nil_append, cf1_2, cf9_12, cf1_7])
                repeat' apply And.intro
                all_goals try (first | with_reducible assumption | (with_reducible refine ck_nzI ?_; simp; done) | (with_reducible refine ck_nzL ?_; simp; done) | (with_reducible refine vp_in_nI ?_ ?_ <;> first | omega | decide) | (with_reducible refine Nat.le_of_ble_eq_true ?_; rfl) | omega | exact Or.inl trivial | exact Or.inr trivial | exact Or.inl rfl | exact Or.inr rfl)
                refine hB bX10_mend_98 _ _ _ _ _ _ _ kX10_mend_98 ?_
                dsimp only [bX10_mend_98, kx_wp, kx_step, kx_lI, kx_lL, kx_lA, kx_gl, kx_pI, kx_pL, kx_pR, kx_pA, kx_pV, kx_s1, kx_s2, kx_sl, kx_pre, kx_c2, kx_pl, kx_cmp, kx_oF, kx_eqN, kx_nil, kx_c1, kx_ft, kx_aI, kx_aL, kx_aR, kx_ln, Nat.reduceAdd, Option.toList, List.cons_append, List.nil_append, cf1_2, cf9_12, cf1_7]
                repeat (simp only [h64, hq, h9, ks_eq, ks_ss]; try dsimp only [kx_wp, kx_step, kx_lI, kx_lL, kx_lA, kx_gl, kx_pI, kx_pL, kx_pR, kx_pA, kx_pV, kx_s1, kx_s2, kx_sl, kx_pre, kx_c2, kx_pl, kx_cmp, kx_oF, kx_eqN, kx_nil, kx_c1, kx_ft, kx_aI, kx_aL, kx_aR, kx_ln, Nat.reduceAdd, Option.toList, List.cons_append, List.nil_append, cf1_2, cf9_12, cf1_7])
                repeat' apply And.intro
                all_goals try (first | with_reducible assumption | (with_reducible refine ck_nzI ?_; simp; done) | (with_reducible refine ck_nzL ?_; simp; done) | (with_reducible refine vp_in_nI ?_ ?_ <;> first | omega | decide) | (with_reducible refine Nat.le_of_ble_eq_true ?_; rfl) | omega | exact Or.inl trivial | exact Or.inr trivial | exact Or.inl rfl | exact Or.inr rfl)
                · intro zc101
                  have ze101 := zc101
                  refine hB bX10_mend_123 _ _ _ _ _ _ _ kX10_mend_123 ?_
                  dsimp only [bX10_mend_123, kx_wp, kx_step, kx_lI, kx_lL, kx_lA, kx_gl, kx_pI, kx_pL, kx_pR, kx_pA, kx_pV, kx_s1, kx_s2, kx_sl, kx_pre, kx_c2, kx_pl, kx_cmp, kx_oF, kx_eqN, kx_nil, kx_c1, kx_ft, kx_aI, kx_aL, kx_aR, kx_ln, Nat.reduceAdd, Option.toList, List.cons_append, List.nil_append, cf1_2, cf9_12, cf1_7]
                  repeat (simp only [h64, hq, h9, ks_eq, ks_ss]; try dsimp only [kx_wp, kx_step, kx_lI, kx_lL, kx_lA, kx_gl, kx_pI, kx_pL, kx_pR, kx_pA, kx_pV, kx_s1, kx_s2, kx_sl, kx_pre, kx_c2, kx_pl, kx_cmp, kx_oF, kx_eqN, kx_nil, kx_c1, kx_ft, kx_aI, kx_aL, kx_aR, kx_ln, Nat.reduceAdd, Option.toList, List.cons_append, List.nil_append, cf1_2, cf9_12, cf1_7])
                  repeat' apply And.intro
                  all_goals try (first | with_reducible assumption | (with_reducible refine ck_nzI ?_; simp; done) | (with_reducible refine ck_nzL ?_; simp; done) | (with_reducible refine vp_in_nI ?_ ?_ <;> first | omega | decide) | (with_reducible refine Nat.le_of_ble_eq_true ?_; rfl) | omega | exact Or.inl trivial | exact Or.inr trivial | exact Or.inl rfl | exact Or.inr rfl)
                  · intro zc125
                    first | exact absurd rfl zc125 | exact absurd zc125 (by decide) | exact absurd (by decide) zc125 | (exfalso; first | exact absurd zc7 (by decide) | exact absurd zc12 (by decide) | exact h12 (Decidable.not_not.mp zc30) | exact zc30 rfl | exact hm1 zc52 | exact hm2 (Decidable.not_not.mp zc58) | exact zc101 rfl | exact absurd zc101 (by decide) | exact zc125 rfl | exact absurd zc125 (by decide)) | (exfalso; simp_all; done)
                  · intro zc125
                    with_reducible first | have ze125 := Decidable.not_not.mp zc125 | have ze125 := zc125
                    refine hB bX10_mend_128 _ _ _ _ _ _ _ kX10_mend_128 ?_
                    dsimp only [bX10_mend_128, kx_wp, kx_step, kx_lI, kx_lL, kx_lA, kx_gl, kx_pI, kx_pL, kx_pR, kx_pA, kx_pV, kx_s1, kx_s2, kx_sl, kx_pre, kx_c2, kx_pl, kx_cmp, kx_oF, kx_eqN, kx_nil, kx_c1, kx_ft, kx_aI, kx_aL, kx_aR, kx_ln, Nat.reduceAdd, Option.toList, List.cons_append, List.nil_append, cf1_2, cf9_12, cf1_7]
                    repeat (simp only [h64, hq, h9, ks_eq, ks_ss]; try dsimp only [kx_wp, kx_step, kx_lI, kx_lL, kx_lA, kx_gl, kx_pI, kx_pL, kx_pR, kx_pA, kx_pV, kx_s1, kx_s2, kx_sl, kx_pre, kx_c2, kx_pl, kx_cmp, kx_oF, kx_eqN, kx_nil, kx_c1, kx_ft, kx_aI, kx_aL, kx_aR, kx_ln, Nat.reduceAdd, Option.toList, List.cons_append, List.nil_append, cf1_2, cf9_12, cf1_7])
                    repeat' apply And.intro
                    all_goals try (first | with_reducible assumption | (with_reducible refine ck_nzI ?_; simp; done) | (with_reducible refine ck_nzL ?_; simp; done) | (with_reducible refine vp_in_nI ?_ ?_ <;> first | omega | decide) | (with_reducible refine Nat.le_of_ble_eq_true ?_; rfl) | omega | exact Or.inl trivial | exact Or.inr trivial | exact Or.inl rfl | exact Or.inr rfl)
                    · intro zc130
                      have ze130 := zc130
                      refine hB bX10_mend_138 _ _ _ _ _ _ _ kX10_mend_138 ?_
                      dsimp only [bX10_mend_138, kx_wp, kx_step, kx_lI, kx_lL, kx_lA, kx_gl, kx_pI, kx_pL, kx_pR, kx_pA, kx_pV, kx_s1, kx_s2, kx_sl, kx_pre, kx_c2, kx_pl, kx_cmp, kx_oF, kx_eqN, kx_nil, kx_c1, kx_ft, kx_aI, kx_aL, kx_aR, kx_ln, Nat.reduceAdd, Option.toList, List.cons_append, List.nil_append, cf1_2, cf9_12, cf1_7]
                      repeat (simp only [h64, hq, h9, ks_eq, ks_ss]; try dsimp only [kx_wp, kx_step, kx_lI, kx_lL, kx_lA, kx_gl, kx_pI, kx_pL, kx_pR, kx_pA, kx_pV, kx_s1, kx_s2, kx_sl, kx_pre, kx_c2, kx_pl, kx_cmp, kx_oF, kx_eqN, kx_nil, kx_c1, kx_ft, kx_aI, kx_aL, kx_aR, kx_ln, Nat.reduceAdd, Option.toList, List.cons_append, List.nil_append, cf1_2, cf9_12, cf1_7])
                      repeat' apply And.intro
                      all_goals try (first | with_reducible assumption | (with_reducible refine ck_nzI ?_; simp; done) | (with_reducible refine ck_nzL ?_; simp; done) | (with_reducible refine vp_in_nI ?_ ?_ <;> first | omega | decide) | (with_reducible refine Nat.le_of_ble_eq_true ?_; rfl) | omega | exact Or.inl trivial | exact Or.inr trivial | exact Or.inl rfl | exact Or.inr rfl)
                      refine hB bX10_mend_140 _ _ _ _ _ _ _ kX10_mend_140 ?_
                      dsimp only [bX10_mend_140, kx_wp, kx_step, kx_lI, kx_lL, kx_lA, kx_gl, kx_pI, kx_pL, kx_pR, kx_pA, kx_pV, kx_s1, kx_s2, kx_sl, kx_pre, kx_c2, kx_pl, kx_cmp, kx_oF, kx_eqN, kx_nil, kx_c1, kx_ft, kx_aI, kx_aL, kx_aR, kx_ln, Nat.reduceAdd, Option.toList, List.cons_append, List.nil_append, cf1_2, cf9_12, cf1_7]
                      repeat (simp only [h64, hq, h9, ks_eq, ks_ss]; try dsimp only [kx_wp, kx_step, kx_lI, kx_lL, kx_lA, kx_gl, kx_pI, kx_pL, kx_pR, kx_pA, kx_pV, kx_s1, kx_s2, kx_sl, kx_pre, kx_c2, kx_pl, kx_cmp, kx_oF, kx_eqN, kx_nil, kx_c1, kx_ft, kx_aI, kx_aL, kx_aR, kx_ln, Nat.reduceAdd, Option.toList, List.cons_append, List.nil_append, cf1_2, cf9_12, cf1_7])
                      all_goals (repeat' apply And.intro)
                      all_goals ((try clear hB hC); first | exact True.intro | first | exact absurd zc106 (by decide) | exact absurd rfl zc106 | exact absurd zc130 (by decide) | exact absurd rfl zc130 | exact absurd zc143 (by decide) | exact absurd rfl zc143 | exact absurd zc101 (by decide) | exact absurd rfl zc101 | exact absurd zc125 (by decide) | exact absurd rfl zc125 | (simp only [cx_md, zc7, ze7, zc12, ze12, ze30, ze52, ze58, zc77, ze77, zc90, ze90, ze101, eq_true ze125, eq_true ze130, ↓reduceIte, Nat.reduceEqDiff, OfNat.ofNat_ne_zero, OfNat.ofNat_ne_one, Nat.succ_ne_zero]; done) | (simp only [cx_md, zc7, ze7, zc12, ze12, ze30, ze52, ze58, zc77, ze77, zc90, ze90, ze101, eq_true ze125, eq_true ze130, ↓reduceIte]; done) | (simp only [cx_md, zc7, ze7, zc12, ze12, ze30, ze52, ze58, zc77, ze77, zc90, ze90, ze101, eq_true ze125, eq_true ze130, ↓reduceIte]; rfl) | (unfold cx_md; simp only [zc7, ze7, zc12, ze12, ze30, ze52, ze58, zc77, ze77, zc90, ze90, ze101, eq_true ze125, eq_true ze130, ↓reduceIte]; rfl))
                    · intro zc130
                      have ze130 := zc130
                      refine hB bX10_mend_133 _ _ _ _ _ _ _ kX10_mend_133 ?_
                      dsimp only [bX10_mend_133, kx_wp, kx_step, kx_lI, kx_lL, kx_lA, kx_gl, kx_pI, kx_pL, kx_pR, kx_pA, kx_pV, kx_s1, kx_s2, kx_sl, kx_pre, kx_c2, kx_pl, kx_cmp, kx_oF, kx_eqN, kx_nil, kx_c1, kx_ft, kx_aI, kx_aL, kx_aR, kx_ln, Nat.reduceAdd, Option.toList, List.cons_append, List.nil_append, cf1_2, cf9_12, cf1_7]
                      repeat (simp only [h64, hq, h9, ks_eq, ks_ss]; try dsimp only [kx_wp, kx_step, kx_lI, kx_lL, kx_lA, kx_gl, kx_pI, kx_pL, kx_pR, kx_pA, kx_pV, kx_s1, kx_s2, kx_sl, kx_pre, kx_c2, kx_pl, kx_cmp, kx_oF, kx_eqN, kx_nil, kx_c1, kx_ft, kx_aI, kx_aL, kx_aR, kx_ln, Nat.reduceAdd, Option.toList, List.cons_append, List.nil_append, cf1_2, cf9_12, cf1_7])
                      repeat' apply And.intro
                      all_goals try (first | with_reducible assumption | (with_reducible refine ck_nzI ?_; simp; done) | (with_reducible refine ck_nzL ?_; simp; done) | (with_reducible refine vp_in_nI ?_ ?_ <;> first | omega | decide) | (with_reducible refine Nat.le_of_ble_eq_true ?_; rfl) | omega | exact Or.inl trivial | exact Or.inr trivial | exact Or.inl rfl | exact Or.inr rfl)
                      refine hB bX10_mend_140 _ _ _ _ _ _ _ kX10_mend_140 ?_
                      dsimp only [bX10_mend_140, kx_wp, kx_step, kx_lI, kx_lL, kx_lA, kx_gl, kx_pI, kx_pL, kx_pR, kx_pA, kx_pV, kx_s1, kx_s2, kx_sl, kx_pre, kx_c2, kx_pl, kx_cmp, kx_oF, kx_eqN, kx_nil, kx_c1, kx_ft, kx_aI, kx_aL, kx_aR, kx_ln, Nat.reduceAdd, Option.toList, List.cons_append, List.nil_append, cf1_2, cf9_12, cf1_7]
                      repeat (simp only [h64, hq, h9, ks_eq, ks_ss]; try dsimp only [kx_wp, kx_step, kx_lI, kx_lL, kx_lA, kx_gl, kx_pI, kx_pL, kx_pR, kx_pA, kx_pV, kx_s1, kx_s2, kx_sl, kx_pre, kx_c2, kx_pl, kx_cmp, kx_oF, kx_eqN, kx_nil, kx_c1, kx_ft, kx_aI, kx_aL, kx_aR, kx_ln, Nat.reduceAdd, Option.toList, List.cons_append, List.nil_append, cf1_2, cf9_12, cf1_7])
                      all_goals (repeat' apply And.intro)
                      all_goals ((try clear hB hC); first | exact True.intro | first | exact absurd zc106 (by decide) | exact absurd rfl zc106 | exact absurd zc130 (by decide) | exact absurd rfl zc130 | exact absurd zc143 (by decide) | exact absurd rfl zc143 | exact absurd zc101 (by decide) | exact absurd rfl zc101 | exact absurd zc125 (by decide) | exact absurd rfl zc125 | (simp only [cx_md, zc7, ze7, zc12, ze12, ze30, ze52, ze58, zc77, ze77, zc90, ze90, ze101, eq_true ze125, ze130, ↓reduceIte, Nat.reduceEqDiff, OfNat.ofNat_ne_zero, OfNat.ofNat_ne_one, Nat.succ_ne_zero]; done) | (simp only [cx_md, zc7, ze7, zc12, ze12, ze30, ze52, ze58, zc77, ze77, zc90, ze90, ze101, eq_true ze125, ze130, ↓reduceIte]; done) | (simp only [cx_md, zc7, ze7, zc12, ze12, ze30, ze52, ze58, zc77, ze77, zc90, ze90, ze101, eq_true ze125, ze130, ↓reduceIte]; rfl) | (unfold cx_md; simp only [zc7, ze7, zc12, ze12, ze30, ze52, ze58, zc77, ze77, zc90, ze90, ze101, eq_true ze125, ze130, ↓reduceIte]; rfl))
                · intro zc101
                  first | exact absurd rfl zc101 | exact absurd zc101 (by decide) | exact absurd (by decide) zc101 | (exfalso; first | exact absurd zc7 (by decide) | exact absurd zc12 (by decide) | exact h12 (Decidable.not_not.mp zc30) | exact zc30 rfl | exact hm1 zc52 | exact hm2 (Decidable.not_not.mp zc58) | exact zc101 rfl | exact absurd zc101 (by decide) | exact zc125 rfl | exact absurd zc125 (by decide)) | (exfalso; simp_all; done)
              · intro zc90
                with_reducible first | have ze90 := Int32.not_le.mp zc90 | have ze90 := zc90
                refine hB bX10_mend_93 _ _ _ _ _ _ _ kX10_mend_93 ?_
                dsimp only [bX10_mend_93, kx_wp, kx_step, kx_lI, kx_lL, kx_lA, kx_gl, kx_pI, kx_pL, kx_pR, kx_pA, kx_pV, kx_s1, kx_s2, kx_sl, kx_pre, kx_c2, kx_pl, kx_cmp, kx_oF, kx_eqN, kx_nil, kx_c1, kx_ft, kx_aI, kx_aL, kx_aR, kx_ln, Nat.reduceAdd, Option.toList, List.cons_append, List.nil_append, cf1_2, cf9_12, cf1_7]
                repeat (simp only [h64, hq, h9, ks_eq, ks_ss]; try dsimp only [kx_wp, kx_step, kx_lI, kx_lL, kx_lA, kx_gl, kx_pI, kx_pL, kx_pR, kx_pA, kx_pV, kx_s1, kx_s2, kx_sl, kx_pre, kx_c2, kx_pl, kx_cmp, kx_oF, kx_eqN, kx_nil, kx_c1, kx_ft, kx_aI, kx_aL, kx_aR, kx_ln, Nat.reduceAdd, Option.toList, List.cons_append, List.nil_append, cf1_2, cf9_12, cf1_7])
                repeat' apply And.intro
                all_goals try (first | with_reducible assumption | (with_reducible refine ck_nzI ?_; simp; done) | (with_reducible refine ck_nzL ?_; simp; done) | (with_reducible refine vp_in_nI ?_ ?_ <;> first | omega | decide) | (with_reducible refine Nat.le_of_ble_eq_true ?_; rfl) | omega | exact Or.inl trivial | exact Or.inr trivial | exact Or.inl rfl | exact Or.inr rfl)
                refine hB bX10_mend_98 _ _ _ _ _ _ _ kX10_mend_98 ?_
                dsimp only [bX10_mend_98, kx_wp, kx_step, kx_lI, kx_lL, kx_lA, kx_gl, kx_pI, kx_pL, kx_pR, kx_pA, kx_pV, kx_s1, kx_s2, kx_sl, kx_pre, kx_c2, kx_pl, kx_cmp, kx_oF, kx_eqN, kx_nil, kx_c1, kx_ft, kx_aI, kx_aL, kx_aR, kx_ln, Nat.reduceAdd, Option.toList, List.cons_append, List.nil_append, cf1_2, cf9_12, cf1_7]
                repeat (simp only [h64, hq, h9, ks_eq, ks_ss]; try dsimp only [kx_wp, kx_step, kx_lI, kx_lL, kx_lA, kx_gl, kx_pI, kx_pL, kx_pR, kx_pA, kx_pV, kx_s1, kx_s2, kx_sl, kx_pre, kx_c2, kx_pl, kx_cmp, kx_oF, kx_eqN, kx_nil, kx_c1, kx_ft, kx_aI, kx_aL, kx_aR, kx_ln, Nat.reduceAdd, Option.toList, List.cons_append, List.nil_append, cf1_2, cf9_12, cf1_7])
                repeat' apply And.intro
                all_goals try (first | with_reducible assumption | (with_reducible refine ck_nzI ?_; simp; done) | (with_reducible refine ck_nzL ?_; simp; done) | (with_reducible refine vp_in_nI ?_ ?_ <;> first | omega | decide) | (with_reducible refine Nat.le_of_ble_eq_true ?_; rfl) | omega | exact Or.inl trivial | exact Or.inr trivial | exact Or.inl rfl | exact Or.inr rfl)
                · intro zc101
                  have ze101 := zc101
                  refine hB bX10_mend_123 _ _ _ _ _ _ _ kX10_mend_123 ?_
                  dsimp only [bX10_mend_123, kx_wp, kx_step, kx_lI, kx_lL, kx_lA, kx_gl, kx_pI, kx_pL, kx_pR, kx_pA, kx_pV, kx_s1, kx_s2, kx_sl, kx_pre, kx_c2, kx_pl, kx_cmp, kx_oF, kx_eqN, kx_nil, kx_c1, kx_ft, kx_aI, kx_aL, kx_aR, kx_ln, Nat.reduceAdd, Option.toList, List.cons_append, List.nil_append, cf1_2, cf9_12, cf1_7]
                  repeat (simp only [h64, hq, h9, ks_eq, ks_ss]; try dsimp only [kx_wp, kx_step, kx_lI, kx_lL, kx_lA, kx_gl, kx_pI, kx_pL, kx_pR, kx_pA, kx_pV, kx_s1, kx_s2, kx_sl, kx_pre, kx_c2, kx_pl, kx_cmp, kx_oF, kx_eqN, kx_nil, kx_c1, kx_ft, kx_aI, kx_aL, kx_aR, kx_ln, Nat.reduceAdd, Option.toList, List.cons_append, List.nil_append, cf1_2, cf9_12, cf1_7])
                  repeat' apply And.intro
                  all_goals try (first | with_reducible assumption | (with_reducible refine ck_nzI ?_; simp; done) | (with_reducible refine ck_nzL ?_; simp; done) | (with_reducible refine vp_in_nI ?_ ?_ <;> first | omega | decide) | (with_reducible refine Nat.le_of_ble_eq_true ?_; rfl) | omega | exact Or.inl trivial | exact Or.inr trivial | exact Or.inl rfl | exact Or.inr rfl)
                  · intro zc125
                    first | exact absurd rfl zc125 | exact absurd zc125 (by decide) | exact absurd (by decide) zc125 | (exfalso; first | exact absurd zc7 (by decide) | exact absurd zc12 (by decide) | exact h12 (Decidable.not_not.mp zc30) | exact zc30 rfl | exact hm1 zc52 | exact hm2 (Decidable.not_not.mp zc58) | exact zc101 rfl | exact absurd zc101 (by decide) | exact zc125 rfl | exact absurd zc125 (by decide)) | (exfalso; simp_all; done)
                  · intro zc125
                    with_reducible first | have ze125 := Decidable.not_not.mp zc125 | have ze125 := zc125
                    refine hB bX10_mend_128 _ _ _ _ _ _ _ kX10_mend_128 ?_
                    dsimp only [bX10_mend_128, kx_wp, kx_step, kx_lI, kx_lL, kx_lA, kx_gl, kx_pI, kx_pL, kx_pR, kx_pA, kx_pV, kx_s1, kx_s2, kx_sl, kx_pre, kx_c2, kx_pl, kx_cmp, kx_oF, kx_eqN, kx_nil, kx_c1, kx_ft, kx_aI, kx_aL, kx_aR, kx_ln, Nat.reduceAdd, Option.toList, List.cons_append, List.nil_append, cf1_2, cf9_12, cf1_7]
                    repeat (simp only [h64, hq, h9, ks_eq, ks_ss]; try dsimp only [kx_wp, kx_step, kx_lI, kx_lL, kx_lA, kx_gl, kx_pI, kx_pL, kx_pR, kx_pA, kx_pV, kx_s1, kx_s2, kx_sl, kx_pre, kx_c2, kx_pl, kx_cmp, kx_oF, kx_eqN, kx_nil, kx_c1, kx_ft, kx_aI, kx_aL, kx_aR, kx_ln, Nat.reduceAdd, Option.toList, List.cons_append, List.nil_append, cf1_2, cf9_12, cf1_7])
                    repeat' apply And.intro
                    all_goals try (first | with_reducible assumption | (with_reducible refine ck_nzI ?_; simp; done) | (with_reducible refine ck_nzL ?_; simp; done) | (with_reducible refine vp_in_nI ?_ ?_ <;> first | omega | decide) | (with_reducible refine Nat.le_of_ble_eq_true ?_; rfl) | omega | exact Or.inl trivial | exact Or.inr trivial | exact Or.inl rfl | exact Or.inr rfl)
                    · intro zc130
                      have ze130 := zc130
                      refine hB bX10_mend_138 _ _ _ _ _ _ _ kX10_mend_138 ?_
                      dsimp only [bX10_mend_138, kx_wp, kx_step, kx_lI, kx_lL, kx_lA, kx_gl, kx_pI, kx_pL, kx_pR, kx_pA, kx_pV, kx_s1, kx_s2, kx_sl, kx_pre, kx_c2, kx_pl, kx_cmp, kx_oF, kx_eqN, kx_nil, kx_c1, kx_ft, kx_aI, kx_aL, kx_aR, kx_ln, Nat.reduceAdd, Option.toList, List.cons_append, List.nil_append, cf1_2, cf9_12, cf1_7]
                      repeat (simp only [h64, hq, h9, ks_eq, ks_ss]; try dsimp only [kx_wp, kx_step, kx_lI, kx_lL, kx_lA, kx_gl, kx_pI, kx_pL, kx_pR, kx_pA, kx_pV, kx_s1, kx_s2, kx_sl, kx_pre, kx_c2, kx_pl, kx_cmp, kx_oF, kx_eqN, kx_nil, kx_c1, kx_ft, kx_aI, kx_aL, kx_aR, kx_ln, Nat.reduceAdd, Option.toList, List.cons_append, List.nil_append, cf1_2, cf9_12, cf1_7])
                      repeat' apply And.intro
                      all_goals try (first | with_reducible assumption | (with_reducible refine ck_nzI ?_; simp; done) | (with_reducible refine ck_nzL ?_; simp; done) | (with_reducible refine vp_in_nI ?_ ?_ <;> first | omega | decide) | (with_reducible refine Nat.le_of_ble_eq_true ?_; rfl) | omega | exact Or.inl trivial | exact Or.inr trivial | exact Or.inl rfl | exact Or.inr rfl)
                      refine hB bX10_mend_140 _ _ _ _ _ _ _ kX10_mend_140 ?_
                      dsimp only [bX10_mend_140, kx_wp, kx_step, kx_lI, kx_lL, kx_lA, kx_gl, kx_pI, kx_pL, kx_pR, kx_pA, kx_pV, kx_s1, kx_s2, kx_sl, kx_pre, kx_c2, kx_pl, kx_cmp, kx_oF, kx_eqN, kx_nil, kx_c1, kx_ft, kx_aI, kx_aL, kx_aR, kx_ln, Nat.reduceAdd, Option.toList, List.cons_append, List.nil_append, cf1_2, cf9_12, cf1_7]
                      repeat (simp only [h64, hq, h9, ks_eq, ks_ss]; try dsimp only [kx_wp, kx_step, kx_lI, kx_lL, kx_lA, kx_gl, kx_pI, kx_pL, kx_pR, kx_pA, kx_pV, kx_s1, kx_s2, kx_sl, kx_pre, kx_c2, kx_pl, kx_cmp, kx_oF, kx_eqN, kx_nil, kx_c1, kx_ft, kx_aI, kx_aL, kx_aR, kx_ln, Nat.reduceAdd, Option.toList, List.cons_append, List.nil_append, cf1_2, cf9_12, cf1_7])
                      all_goals (repeat' apply And.intro)
                      all_goals ((try clear hB hC); first | exact True.intro | first | exact absurd zc106 (by decide) | exact absurd rfl zc106 | exact absurd zc130 (by decide) | exact absurd rfl zc130 | exact absurd zc143 (by decide) | exact absurd rfl zc143 | exact absurd zc101 (by decide) | exact absurd rfl zc101 | exact absurd zc125 (by decide) | exact absurd rfl zc125 | (simp only [cx_md, zc7, ze7, zc12, ze12, ze30, ze52, ze58, zc77, ze77, zc90, ze90, ze101, eq_true ze125, eq_true ze130, ↓reduceIte, Nat.reduceEqDiff, OfNat.ofNat_ne_zero, OfNat.ofNat_ne_one, Nat.succ_ne_zero]; done) | (simp only [cx_md, zc7, ze7, zc12, ze12, ze30, ze52, ze58, zc77, ze77, zc90, ze90, ze101, eq_true ze125, eq_true ze130, ↓reduceIte]; done) | (simp only [cx_md, zc7, ze7, zc12, ze12, ze30, ze52, ze58, zc77, ze77, zc90, ze90, ze101, eq_true ze125, eq_true ze130, ↓reduceIte]; rfl) | (unfold cx_md; simp only [zc7, ze7, zc12, ze12, ze30, ze52, ze58, zc77, ze77, zc90, ze90, ze101, eq_true ze125, eq_true ze130, ↓reduceIte]; rfl))
                    · intro zc130
                      have ze130 := zc130
                      refine hB bX10_mend_133 _ _ _ _ _ _ _ kX10_mend_133 ?_
                      dsimp only [bX10_mend_133, kx_wp, kx_step, kx_lI, kx_lL, kx_lA, kx_gl, kx_pI, kx_pL, kx_pR, kx_pA, kx_pV, kx_s1, kx_s2, kx_sl, kx_pre, kx_c2, kx_pl, kx_cmp, kx_oF, kx_eqN, kx_nil, kx_c1, kx_ft, kx_aI, kx_aL, kx_aR, kx_ln, Nat.reduceAdd, Option.toList, List.cons_append, List.nil_append, cf1_2, cf9_12, cf1_7]
                      repeat (simp only [h64, hq, h9, ks_eq, ks_ss]; try dsimp only [kx_wp, kx_step, kx_lI, kx_lL, kx_lA, kx_gl, kx_pI, kx_pL, kx_pR, kx_pA, kx_pV, kx_s1, kx_s2, kx_sl, kx_pre, kx_c2, kx_pl, kx_cmp, kx_oF, kx_eqN, kx_nil, kx_c1, kx_ft, kx_aI, kx_aL, kx_aR, kx_ln, Nat.reduceAdd, Option.toList, List.cons_append, List.nil_append, cf1_2, cf9_12, cf1_7])
                      repeat' apply And.intro
                      all_goals try (first | with_reducible assumption | (with_reducible refine ck_nzI ?_; simp; done) | (with_reducible refine ck_nzL ?_; simp; done) | (with_reducible refine vp_in_nI ?_ ?_ <;> first | omega | decide) | (with_reducible refine Nat.le_of_ble_eq_true ?_; rfl) | omega | exact Or.inl trivial | exact Or.inr trivial | exact Or.inl rfl | exact Or.inr rfl)
                      refine hB bX10_mend_140 _ _ _ _ _ _ _ kX10_mend_140 ?_
                      dsimp only [bX10_mend_140, kx_wp, kx_step, kx_lI, kx_lL, kx_lA, kx_gl, kx_pI, kx_pL, kx_pR, kx_pA, kx_pV, kx_s1, kx_s2, kx_sl, kx_pre, kx_c2, kx_pl, kx_cmp, kx_oF, kx_eqN, kx_nil, kx_c1, kx_ft, kx_aI, kx_aL, kx_aR, kx_ln, Nat.reduceAdd, Option.toList, List.cons_append, List.nil_append, cf1_2, cf9_12, cf1_7]
                      repeat (simp only [h64, hq, h9, ks_eq, ks_ss]; try dsimp only [kx_wp, kx_step, kx_lI, kx_lL, kx_lA, kx_gl, kx_pI, kx_pL, kx_pR, kx_pA, kx_pV, kx_s1, kx_s2, kx_sl, kx_pre, kx_c2, kx_pl, kx_cmp, kx_oF, kx_eqN, kx_nil, kx_c1, kx_ft, kx_aI, kx_aL, kx_aR, kx_ln, Nat.reduceAdd, Option.toList, List.cons_append, List.nil_append, cf1_2, cf9_12, cf1_7])
                      all_goals (repeat' apply And.intro)
                      all_goals ((try clear hB hC); first | exact True.intro | first | exact absurd zc106 (by decide) | exact absurd rfl zc106 | exact absurd zc130 (by decide) | exact absurd rfl zc130 | exact absurd zc143 (by decide) | exact absurd rfl zc143 | exact absurd zc101 (by decide) | exact absurd rfl zc101 | exact absurd zc125 (by decide) | exact absurd rfl zc125 | (simp only [cx_md, zc7, ze7, zc12, ze12, ze30, ze52, ze58, zc77, ze77, zc90, ze90, ze101, eq_true ze125, ze130, ↓reduceIte, Nat.reduceEqDiff, OfNat.ofNat_ne_zero, OfNat.ofNat_ne_one, Nat.succ_ne_zero]; done) | (simp only [cx_md, zc7, ze7, zc12, ze12, ze30, ze52, ze58, zc77, ze77, zc90, ze90, ze101, eq_true ze125, ze130, ↓reduceIte]; done) | (simp only [cx_md, zc7, ze7, zc12, ze12, ze30, ze52, ze58, zc77, ze77, zc90, ze90, ze101, eq_true ze125, ze130, ↓reduceIte]; rfl) | (unfold cx_md; simp only [zc7, ze7, zc12, ze12, ze30, ze52, ze58, zc77, ze77, zc90, ze90, ze101, eq_true ze125, ze130, ↓reduceIte]; rfl))
                · intro zc101
                  first | exact absurd rfl zc101 | exact absurd zc101 (by decide) | exact absurd (by decide) zc101 | (exfalso; first | exact absurd zc7 (by decide) | exact absurd zc12 (by decide) | exact h12 (Decidable.not_not.mp zc30) | exact zc30 rfl | exact hm1 zc52 | exact hm2 (Decidable.not_not.mp zc58) | exact zc101 rfl | exact absurd zc101 (by decide) | exact zc125 rfl | exact absurd zc125 (by decide)) | (exfalso; simp_all; done)
          · intro zc58
            first | exact absurd rfl zc58 | exact absurd zc58 (by decide) | exact absurd (by decide) zc58 | (exfalso; first | exact absurd zc7 (by decide) | exact absurd zc12 (by decide) | exact h12 (Decidable.not_not.mp zc30) | exact zc30 rfl | exact hm1 zc52 | exact hm2 (Decidable.not_not.mp zc58) | exact zc101 rfl | exact absurd zc101 (by decide) | exact zc125 rfl | exact absurd zc125 (by decide)) | (exfalso; simp_all; done)
      · intro zc30
        first | exact absurd rfl zc30 | exact absurd zc30 (by decide) | exact absurd (by decide) zc30 | (exfalso; first | exact absurd zc7 (by decide) | exact absurd zc12 (by decide) | exact h12 (Decidable.not_not.mp zc30) | exact zc30 rfl | exact hm1 zc52 | exact hm2 (Decidable.not_not.mp zc58) | exact zc101 rfl | exact absurd zc101 (by decide) | exact zc125 rfl | exact absurd zc125 (by decide)) | (exfalso; simp_all; done)

set_option maxRecDepth 100000 in
set_option maxHeartbeats 4000000 in
theorem ct_X10_mend_n2 (l : Launch) (G : kx_G) {P : kx_P} {sz : Nat} {sv : Value} {K : Nat → Int32} (h64 : P 64 = kO 10 (kf (cr10 sv) K)) {cl : Nat} {cn : Nat → Nat} (h69 : P 69 = kR 8 (fun i => if i < cl then some (cn i) else none)) (h7 : K 7 = nI cl) (hcl : cl ≤ 8) {c : Nat} (hc : c < cl) {w : Nat} {V T Q Fo St Al Wm S C : Nat → Int32} {d : Int64} {h : Value} (H : cx_R P (cn c) w V T Q Fo St Al Wm) (hs : P (w + 5) = kI 0 64 S) (hq : P (cn c) = kO 1 (kf (cr1 (.ref w) d h) C)) (h12 : V 12 = 0)  : kx_M l G sX10_mend 6 0 0 [.ref 64, .int (nI c), .int (2)] P sz (some (.int (-1))) P sz := by
  have h64c : 64 ≤ cn c := H.2.1
  have hne : ¬ cn c = w := by have := H.2.2.1; omega
  have h9 : P w = kO 9 (kf (cr9 w) V) := H.2.2.2.2.2.1
  have h9c : ∀ y, kx_set P (cn c) y w = kO 9 (kf (cr9 w) V) := fun y => (ks_ne (fun z => hne z.symm)).trans h9
  have hA : P 65 = kO 0 (kf cr0 Al) := H.2.2.2.2.2.2.2.2.2.2.1
  have hT : P (w + 1) = kI 0 24 T := H.2.2.2.2.2.2.1
  have hPW : cW P (cn c) w S d h C = P := by unfold cW; rw [ks_id hs, ks_id hq]
  refine kx_mk kx_tab kxLok_X10 (ini := false) [some (.ref 64), some (.int (nI c)), some (.int (2)), none, none, none, none, none] ⟨by decide, rfl, by decide, by decide⟩ (⟨_, rfl⟩) rfl rfl (fun g hB hC => ?_)
  refine hB bX10_mend_0 _ _ _ _ _ _ _ kX10_mend_0 ?_
  dsimp only [bX10_mend_0, kx_wp, kx_step, kx_lI, kx_lL, kx_lA, kx_gl, kx_pI, kx_pL, kx_pR, kx_pA, kx_pV, kx_s1, kx_s2, kx_sl, kx_pre, kx_c2, kx_pl, kx_cmp, kx_oF, kx_eqN, kx_nil, kx_c1, kx_ft, kx_aI, kx_aL, kx_aR, kx_ln, Nat.reduceAdd, Option.toList, List.cons_append, List.nil_append, cf1_2, cf9_12, cf1_7]
  repeat (simp only [h64, hq, h9, h12, ks_eq, ks_ss]; try dsimp only [kx_wp, kx_step, kx_lI, kx_lL, kx_lA, kx_gl, kx_pI, kx_pL, kx_pR, kx_pA, kx_pV, kx_s1, kx_s2, kx_sl, kx_pre, kx_c2, kx_pl, kx_cmp, kx_oF, kx_eqN, kx_nil, kx_c1, kx_ft, kx_aI, kx_aL, kx_aR, kx_ln, Nat.reduceAdd, Option.toList, List.cons_append, List.nil_append, cf1_2, cf9_12, cf1_7])
  repeat' apply And.intro
  all_goals try (first | with_reducible assumption | (with_reducible refine ck_nzI ?_; simp; done) | (with_reducible refine ck_nzL ?_; simp; done) | (with_reducible refine vp_in_nI ?_ ?_ <;> first | omega | decide) | (with_reducible refine Nat.le_of_ble_eq_true ?_; rfl) | omega | exact Or.inl trivial | exact Or.inr trivial | exact Or.inl rfl | exact Or.inr rfl)
  refine hC.1 138 _ _ _ _ _ _ _ 10 _ _ _ _ _ _ _ _ _ _ _ _ lX10_138 (ct_X10_theClock l G h64 h69 h7 hcl hc) ⟨by decide, rfl⟩ (h64) rfl rfl (Nat.le_of_ble_eq_true rfl) (by first | decide | omega) (by decide) (by omega) (by omega) dX10_mend_2 ?_
  refine hB bX10_mend_5 _ _ _ _ _ _ _ kX10_mend_5 ?_
  dsimp only [bX10_mend_5, kx_wp, kx_step, kx_lI, kx_lL, kx_lA, kx_gl, kx_pI, kx_pL, kx_pR, kx_pA, kx_pV, kx_s1, kx_s2, kx_sl, kx_pre, kx_c2, kx_pl, kx_cmp, kx_oF, kx_eqN, kx_nil, kx_c1, kx_ft, kx_aI, kx_aL, kx_aR, kx_ln, Nat.reduceAdd, Option.toList, List.cons_append, List.nil_append, cf1_2, cf9_12, cf1_7]
  repeat (simp only [h64, hq, h9, h12, ks_eq, ks_ss]; try dsimp only [kx_wp, kx_step, kx_lI, kx_lL, kx_lA, kx_gl, kx_pI, kx_pL, kx_pR, kx_pA, kx_pV, kx_s1, kx_s2, kx_sl, kx_pre, kx_c2, kx_pl, kx_cmp, kx_oF, kx_eqN, kx_nil, kx_c1, kx_ft, kx_aI, kx_aL, kx_aR, kx_ln, Nat.reduceAdd, Option.toList, List.cons_append, List.nil_append, cf1_2, cf9_12, cf1_7])
  repeat' apply And.intro
  all_goals try (first | with_reducible assumption | (with_reducible refine ck_nzI ?_; simp; done) | (with_reducible refine ck_nzL ?_; simp; done) | (with_reducible refine vp_in_nI ?_ ?_ <;> first | omega | decide) | (with_reducible refine Nat.le_of_ble_eq_true ?_; rfl) | omega | exact Or.inl trivial | exact Or.inr trivial | exact Or.inl rfl | exact Or.inr rfl)
  · intro zc7
    first | exact absurd rfl zc7 | exact absurd zc7 (by decide) | exact absurd (by decide) zc7 | (exfalso; first | exact absurd zc7 (by decide) | exact absurd zc12 (by decide) | exact h12 (Decidable.not_not.mp zc30) | exact zc30 rfl) | (exfalso; simp_all; done)
  · intro zc7
    with_reducible first | have ze7 := Int32.not_lt.mp zc7 | have ze7 := zc7
    refine hB bX10_mend_10 _ _ _ _ _ _ _ kX10_mend_10 ?_
    dsimp only [bX10_mend_10, kx_wp, kx_step, kx_lI, kx_lL, kx_lA, kx_gl, kx_pI, kx_pL, kx_pR, kx_pA, kx_pV, kx_s1, kx_s2, kx_sl, kx_pre, kx_c2, kx_pl, kx_cmp, kx_oF, kx_eqN, kx_nil, kx_c1, kx_ft, kx_aI, kx_aL, kx_aR, kx_ln, Nat.reduceAdd, Option.toList, List.cons_append, List.nil_append, cf1_2, cf9_12, cf1_7]
    repeat (simp only [h64, hq, h9, h12, ks_eq, ks_ss]; try dsimp only [kx_wp, kx_step, kx_lI, kx_lL, kx_lA, kx_gl, kx_pI, kx_pL, kx_pR, kx_pA, kx_pV, kx_s1, kx_s2, kx_sl, kx_pre, kx_c2, kx_pl, kx_cmp, kx_oF, kx_eqN, kx_nil, kx_c1, kx_ft, kx_aI, kx_aL, kx_aR, kx_ln, Nat.reduceAdd, Option.toList, List.cons_append, List.nil_append, cf1_2, cf9_12, cf1_7])
    repeat' apply And.intro
    all_goals try (first | with_reducible assumption | (with_reducible refine ck_nzI ?_; simp; done) | (with_reducible refine ck_nzL ?_; simp; done) | (with_reducible refine vp_in_nI ?_ ?_ <;> first | omega | decide) | (with_reducible refine Nat.le_of_ble_eq_true ?_; rfl) | omega | exact Or.inl trivial | exact Or.inr trivial | exact Or.inl rfl | exact Or.inr rfl)
    · intro zc12
      first | exact absurd rfl zc12 | exact absurd zc12 (by decide) | exact absurd (by decide) zc12 | (exfalso; first | exact absurd zc7 (by decide) | exact absurd zc12 (by decide) | exact h12 (Decidable.not_not.mp zc30) | exact zc30 rfl) | (exfalso; simp_all; done)
    · intro zc12
      with_reducible first | have ze12 := Int32.not_lt.mp zc12 | have ze12 := zc12
      refine hB bX10_mend_15 _ _ _ _ _ _ _ kX10_mend_15 ?_
      dsimp only [bX10_mend_15, kx_wp, kx_step, kx_lI, kx_lL, kx_lA, kx_gl, kx_pI, kx_pL, kx_pR, kx_pA, kx_pV, kx_s1, kx_s2, kx_sl, kx_pre, kx_c2, kx_pl, kx_cmp, kx_oF, kx_eqN, kx_nil, kx_c1, kx_ft, kx_aI, kx_aL, kx_aR, kx_ln, Nat.reduceAdd, Option.toList, List.cons_append, List.nil_append, cf1_2, cf9_12, cf1_7]
      repeat (simp only [h64, hq, h9, h12, ks_eq, ks_ss]; try dsimp only [kx_wp, kx_step, kx_lI, kx_lL, kx_lA, kx_gl, kx_pI, kx_pL, kx_pR, kx_pA, kx_pV, kx_s1, kx_s2, kx_sl, kx_pre, kx_c2, kx_pl, kx_cmp, kx_oF, kx_eqN, kx_nil, kx_c1, kx_ft, kx_aI, kx_aL, kx_aR, kx_ln, Nat.reduceAdd, Option.toList, List.cons_append, List.nil_append, cf1_2, cf9_12, cf1_7])
      repeat' apply And.intro
      all_goals try (first | with_reducible assumption | (with_reducible refine ck_nzI ?_; simp; done) | (with_reducible refine ck_nzL ?_; simp; done) | (with_reducible refine vp_in_nI ?_ ?_ <;> first | omega | decide) | (with_reducible refine Nat.le_of_ble_eq_true ?_; rfl) | omega | exact Or.inl trivial | exact Or.inr trivial | exact Or.inl rfl | exact Or.inr rfl)
      refine hC.2.1 95 _ _ _ _ _ _ _ _ _ _ _ _ _ _ _ _ _ lX10_95 (ct_X10_need l G (b := 1) (by decide)) rfl rfl (Nat.le_of_ble_eq_true rfl) (by first | decide | omega) (by decide) (by omega) (by omega) dX10_mend_20 ?_
      refine hB bX10_mend_23 _ _ _ _ _ _ _ kX10_mend_23 ?_
      dsimp only [bX10_mend_23, kx_wp, kx_step, kx_lI, kx_lL, kx_lA, kx_gl, kx_pI, kx_pL, kx_pR, kx_pA, kx_pV, kx_s1, kx_s2, kx_sl, kx_pre, kx_c2, kx_pl, kx_cmp, kx_oF, kx_eqN, kx_nil, kx_c1, kx_ft, kx_aI, kx_aL, kx_aR, kx_ln, Nat.reduceAdd, Option.toList, List.cons_append, List.nil_append, cf1_2, cf9_12, cf1_7]
      repeat (simp only [h64, hq, h9, h12, ks_eq, ks_ss]; try dsimp only [kx_wp, kx_step, kx_lI, kx_lL, kx_lA, kx_gl, kx_pI, kx_pL, kx_pR, kx_pA, kx_pV, kx_s1, kx_s2, kx_sl, kx_pre, kx_c2, kx_pl, kx_cmp, kx_oF, kx_eqN, kx_nil, kx_c1, kx_ft, kx_aI, kx_aL, kx_aR, kx_ln, Nat.reduceAdd, Option.toList, List.cons_append, List.nil_append, cf1_2, cf9_12, cf1_7])
      repeat' apply And.intro
      all_goals try (first | with_reducible assumption | (with_reducible refine ck_nzI ?_; simp; done) | (with_reducible refine ck_nzL ?_; simp; done) | (with_reducible refine vp_in_nI ?_ ?_ <;> first | omega | decide) | (with_reducible refine Nat.le_of_ble_eq_true ?_; rfl) | omega | exact Or.inl trivial | exact Or.inr trivial | exact Or.inl rfl | exact Or.inr rfl)
      · intro zc30
        first | exact absurd rfl zc30 | exact absurd zc30 (by decide) | exact absurd (by decide) zc30 | (exfalso; first | exact absurd zc7 (by decide) | exact absurd zc12 (by decide) | exact h12 (Decidable.not_not.mp zc30) | exact zc30 rfl) | (exfalso; simp_all; done)
      · intro zc30
        with_reducible first | have ze30 := Decidable.not_not.mp zc30 | have ze30 := zc30
        refine hB bX10_mend_33 _ _ _ _ _ _ _ kX10_mend_33 ?_
        dsimp only [bX10_mend_33, kx_wp, kx_step, kx_lI, kx_lL, kx_lA, kx_gl, kx_pI, kx_pL, kx_pR, kx_pA, kx_pV, kx_s1, kx_s2, kx_sl, kx_pre, kx_c2, kx_pl, kx_cmp, kx_oF, kx_eqN, kx_nil, kx_c1, kx_ft, kx_aI, kx_aL, kx_aR, kx_ln, Nat.reduceAdd, Option.toList, List.cons_append, List.nil_append, cf1_2, cf9_12, cf1_7]
        repeat (simp only [h64, hq, h9, h12, ks_eq, ks_ss]; try dsimp only [kx_wp, kx_step, kx_lI, kx_lL, kx_lA, kx_gl, kx_pI, kx_pL, kx_pR, kx_pA, kx_pV, kx_s1, kx_s2, kx_sl, kx_pre, kx_c2, kx_pl, kx_cmp, kx_oF, kx_eqN, kx_nil, kx_c1, kx_ft, kx_aI, kx_aL, kx_aR, kx_ln, Nat.reduceAdd, Option.toList, List.cons_append, List.nil_append, cf1_2, cf9_12, cf1_7])
        all_goals (repeat' apply And.intro)
        all_goals ((try clear hB hC); first | exact True.intro | with_reducible rfl | with_reducible assumption | (with_reducible refine vp_in_nI ?_ ?_ <;> first | omega | decide) | exact Nat.le_of_ble_eq_true rfl | (with_reducible refine ck_nzI ?_; simp; done) | (with_reducible refine ck_nzL ?_; simp; done) | (simp only [pk_us, pk_uLs, zc7, ze7, zc12, ze12, eq_true ze30, ↓reduceIte, not_true_eq_false, not_false_eq_true]; done) | (simp only [zc7, ze7, zc12, ze12, eq_true ze30, ↓reduceIte, not_true_eq_false, not_false_eq_true]; with_reducible rfl) | omega | skip)

set_option maxRecDepth 100000 in
set_option maxHeartbeats 4000000 in
theorem ct_X10_mend_z2 (l : Launch) (G : kx_G) {P : kx_P} {sz : Nat} {sv : Value} {K : Nat → Int32} (h64 : P 64 = kO 10 (kf (cr10 sv) K)) {cl : Nat} {cn : Nat → Nat} (h69 : P 69 = kR 8 (fun i => if i < cl then some (cn i) else none)) (h7 : K 7 = nI cl) (hcl : cl ≤ 8) {c : Nat} (hc : c < cl) {w : Nat} {V T Q Fo St Al Wm S C : Nat → Int32} {d : Int64} {h : Value} (H : cx_R P (cn c) w V T Q Fo St Al Wm) (hs : P (w + 5) = kI 0 64 S) (hq : P (cn c) = kO 1 (kf (cr1 (.ref w) d h) C)) (h12 : ¬ V 12 = 0) {wm : Nat} (h14 : V 14 = nI wm) (hwm : 1 ≤ wm ∧ wm ≤ 24) {a p : Nat} (hd : d = lN a) (ha : a < 86400000000) (h8 : C 8 = nI p) (hp : p < wm) {tr lf : Int32} (htr : (cx_fi (fun k => cx_sx T wm (a / 3600000000 + 1) ((p + k) % wm) (24) (0)) wm 0) = tr) (hlf : (cx_fi (fun k => cx_sx T wm (a / 3600000000 + 1) ((p + wm - k) % wm) (24) (0)) wm 0) = lf) (hz : tr = -1 ∨ lf = -1)  : kx_M l G sX10_mend 6 0 0 [.ref 64, .int (nI c), .int (2)] P sz (some (.int (-1))) P sz := by
  have h64c : 64 ≤ cn c := H.2.1
  have hne : ¬ cn c = w := by have := H.2.2.1; omega
  have h9 : P w = kO 9 (kf (cr9 w) V) := H.2.2.2.2.2.1
  have h9c : ∀ y, kx_set P (cn c) y w = kO 9 (kf (cr9 w) V) := fun y => (ks_ne (fun z => hne z.symm)).trans h9
  have hA : P 65 = kO 0 (kf cr0 Al) := H.2.2.2.2.2.2.2.2.2.2.1
  have hT : P (w + 1) = kI 0 24 T := H.2.2.2.2.2.2.1
  have hPW : cW P (cn c) w S d h C = P := by unfold cW; rw [ks_id hs, ks_id hq]
  have ha1 := ct_X1_actsToStep_t l G (sz := sz) H (S := S) (C := C) (h := h) h14 hwm hd ha h8 hp
  have ha2 := ct_X1_actsToStep_l l G (sz := sz) H (S := S) (C := C) (h := h) h14 hwm hd ha h8 hp
  rw [hPW, htr] at ha1
  rw [hPW, hlf] at ha2
  refine kx_mk kx_tab kxLok_X10 (ini := false) [some (.ref 64), some (.int (nI c)), some (.int (2)), none, none, none, none, none] ⟨by decide, rfl, by decide, by decide⟩ (⟨_, rfl⟩) rfl rfl (fun g hB hC => ?_)
  refine hB bX10_mend_0 _ _ _ _ _ _ _ kX10_mend_0 ?_
  dsimp only [bX10_mend_0, kx_wp, kx_step, kx_lI, kx_lL, kx_lA, kx_gl, kx_pI, kx_pL, kx_pR, kx_pA, kx_pV, kx_s1, kx_s2, kx_sl, kx_pre, kx_c2, kx_pl, kx_cmp, kx_oF, kx_eqN, kx_nil, kx_c1, kx_ft, kx_aI, kx_aL, kx_aR, kx_ln, Nat.reduceAdd, Option.toList, List.cons_append, List.nil_append, cf1_2, cf9_12, cf1_7]
  repeat (simp only [h64, hq, h9, ks_eq, ks_ss]; try dsimp only [kx_wp, kx_step, kx_lI, kx_lL, kx_lA, kx_gl, kx_pI, kx_pL, kx_pR, kx_pA, kx_pV, kx_s1, kx_s2, kx_sl, kx_pre, kx_c2, kx_pl, kx_cmp, kx_oF, kx_eqN, kx_nil, kx_c1, kx_ft, kx_aI, kx_aL, kx_aR, kx_ln, Nat.reduceAdd, Option.toList, List.cons_append, List.nil_append, cf1_2, cf9_12, cf1_7])
  repeat' apply And.intro
  all_goals try (first | with_reducible assumption | (with_reducible refine ck_nzI ?_; simp; done) | (with_reducible refine ck_nzL ?_; simp; done) | (with_reducible refine vp_in_nI ?_ ?_ <;> first | omega | decide) | (with_reducible refine Nat.le_of_ble_eq_true ?_; rfl) | omega | exact Or.inl trivial | exact Or.inr trivial | exact Or.inl rfl | exact Or.inr rfl)
  refine hC.1 138 _ _ _ _ _ _ _ 10 _ _ _ _ _ _ _ _ _ _ _ _ lX10_138 (ct_X10_theClock l G h64 h69 h7 hcl hc) ⟨by decide, rfl⟩ (h64) rfl rfl (Nat.le_of_ble_eq_true rfl) (by first | decide | omega) (by decide) (by omega) (by omega) dX10_mend_2 ?_
  refine hB bX10_mend_5 _ _ _ _ _ _ _ kX10_mend_5 ?_
  dsimp only [bX10_mend_5, kx_wp, kx_step, kx_lI, kx_lL, kx_lA, kx_gl, kx_pI, kx_pL, kx_pR, kx_pA, kx_pV, kx_s1, kx_s2, kx_sl, kx_pre, kx_c2, kx_pl, kx_cmp, kx_oF, kx_eqN, kx_nil, kx_c1, kx_ft, kx_aI, kx_aL, kx_aR, kx_ln, Nat.reduceAdd, Option.toList, List.cons_append, List.nil_append, cf1_2, cf9_12, cf1_7]
  repeat (simp only [h64, hq, h9, ks_eq, ks_ss]; try dsimp only [kx_wp, kx_step, kx_lI, kx_lL, kx_lA, kx_gl, kx_pI, kx_pL, kx_pR, kx_pA, kx_pV, kx_s1, kx_s2, kx_sl, kx_pre, kx_c2, kx_pl, kx_cmp, kx_oF, kx_eqN, kx_nil, kx_c1, kx_ft, kx_aI, kx_aL, kx_aR, kx_ln, Nat.reduceAdd, Option.toList, List.cons_append, List.nil_append, cf1_2, cf9_12, cf1_7])
  repeat' apply And.intro
  all_goals try (first | with_reducible assumption | (with_reducible refine ck_nzI ?_; simp; done) | (with_reducible refine ck_nzL ?_; simp; done) | (with_reducible refine vp_in_nI ?_ ?_ <;> first | omega | decide) | (with_reducible refine Nat.le_of_ble_eq_true ?_; rfl) | omega | exact Or.inl trivial | exact Or.inr trivial | exact Or.inl rfl | exact Or.inr rfl)
  · intro zc7
    first | exact absurd rfl zc7 | exact absurd zc7 (by decide) | exact absurd (by decide) zc7 | (exfalso; first | exact absurd zc7 (by decide) | exact absurd zc12 (by decide) | exact h12 (Decidable.not_not.mp zc30) | exact zc30 rfl) | (exfalso; simp_all; done)
  · intro zc7
    with_reducible first | have ze7 := Int32.not_lt.mp zc7 | have ze7 := zc7
    refine hB bX10_mend_10 _ _ _ _ _ _ _ kX10_mend_10 ?_
    dsimp only [bX10_mend_10, kx_wp, kx_step, kx_lI, kx_lL, kx_lA, kx_gl, kx_pI, kx_pL, kx_pR, kx_pA, kx_pV, kx_s1, kx_s2, kx_sl, kx_pre, kx_c2, kx_pl, kx_cmp, kx_oF, kx_eqN, kx_nil, kx_c1, kx_ft, kx_aI, kx_aL, kx_aR, kx_ln, Nat.reduceAdd, Option.toList, List.cons_append, List.nil_append, cf1_2, cf9_12, cf1_7]
    repeat (simp only [h64, hq, h9, ks_eq, ks_ss]; try dsimp only [kx_wp, kx_step, kx_lI, kx_lL, kx_lA, kx_gl, kx_pI, kx_pL, kx_pR, kx_pA, kx_pV, kx_s1, kx_s2, kx_sl, kx_pre, kx_c2, kx_pl, kx_cmp, kx_oF, kx_eqN, kx_nil, kx_c1, kx_ft, kx_aI, kx_aL, kx_aR, kx_ln, Nat.reduceAdd, Option.toList, List.cons_append, List.nil_append, cf1_2, cf9_12, cf1_7])
    repeat' apply And.intro
    all_goals try (first | with_reducible assumption | (with_reducible refine ck_nzI ?_; simp; done) | (with_reducible refine ck_nzL ?_; simp; done) | (with_reducible refine vp_in_nI ?_ ?_ <;> first | omega | decide) | (with_reducible refine Nat.le_of_ble_eq_true ?_; rfl) | omega | exact Or.inl trivial | exact Or.inr trivial | exact Or.inl rfl | exact Or.inr rfl)
    · intro zc12
      first | exact absurd rfl zc12 | exact absurd zc12 (by decide) | exact absurd (by decide) zc12 | (exfalso; first | exact absurd zc7 (by decide) | exact absurd zc12 (by decide) | exact h12 (Decidable.not_not.mp zc30) | exact zc30 rfl) | (exfalso; simp_all; done)
    · intro zc12
      with_reducible first | have ze12 := Int32.not_lt.mp zc12 | have ze12 := zc12
      refine hB bX10_mend_15 _ _ _ _ _ _ _ kX10_mend_15 ?_
      dsimp only [bX10_mend_15, kx_wp, kx_step, kx_lI, kx_lL, kx_lA, kx_gl, kx_pI, kx_pL, kx_pR, kx_pA, kx_pV, kx_s1, kx_s2, kx_sl, kx_pre, kx_c2, kx_pl, kx_cmp, kx_oF, kx_eqN, kx_nil, kx_c1, kx_ft, kx_aI, kx_aL, kx_aR, kx_ln, Nat.reduceAdd, Option.toList, List.cons_append, List.nil_append, cf1_2, cf9_12, cf1_7]
      repeat (simp only [h64, hq, h9, ks_eq, ks_ss]; try dsimp only [kx_wp, kx_step, kx_lI, kx_lL, kx_lA, kx_gl, kx_pI, kx_pL, kx_pR, kx_pA, kx_pV, kx_s1, kx_s2, kx_sl, kx_pre, kx_c2, kx_pl, kx_cmp, kx_oF, kx_eqN, kx_nil, kx_c1, kx_ft, kx_aI, kx_aL, kx_aR, kx_ln, Nat.reduceAdd, Option.toList, List.cons_append, List.nil_append, cf1_2, cf9_12, cf1_7])
      repeat' apply And.intro
      all_goals try (first | with_reducible assumption | (with_reducible refine ck_nzI ?_; simp; done) | (with_reducible refine ck_nzL ?_; simp; done) | (with_reducible refine vp_in_nI ?_ ?_ <;> first | omega | decide) | (with_reducible refine Nat.le_of_ble_eq_true ?_; rfl) | omega | exact Or.inl trivial | exact Or.inr trivial | exact Or.inl rfl | exact Or.inr rfl)
      refine hC.2.1 95 _ _ _ _ _ _ _ _ _ _ _ _ _ _ _ _ _ lX10_95 (ct_X10_need l G (b := 1) (by decide)) rfl rfl (Nat.le_of_ble_eq_true rfl) (by first | decide | omega) (by decide) (by omega) (by omega) dX10_mend_20 ?_
      refine hB bX10_mend_23 _ _ _ _ _ _ _ kX10_mend_23 ?_
      dsimp only [bX10_mend_23, kx_wp, kx_step, kx_lI, kx_lL, kx_lA, kx_gl, kx_pI, kx_pL, kx_pR, kx_pA, kx_pV, kx_s1, kx_s2, kx_sl, kx_pre, kx_c2, kx_pl, kx_cmp, kx_oF, kx_eqN, kx_nil, kx_c1, kx_ft, kx_aI, kx_aL, kx_aR, kx_ln, Nat.reduceAdd, Option.toList, List.cons_append, List.nil_append, cf1_2, cf9_12, cf1_7]
      repeat (simp only [h64, hq, h9, ks_eq, ks_ss]; try dsimp only [kx_wp, kx_step, kx_lI, kx_lL, kx_lA, kx_gl, kx_pI, kx_pL, kx_pR, kx_pA, kx_pV, kx_s1, kx_s2, kx_sl, kx_pre, kx_c2, kx_pl, kx_cmp, kx_oF, kx_eqN, kx_nil, kx_c1, kx_ft, kx_aI, kx_aL, kx_aR, kx_ln, Nat.reduceAdd, Option.toList, List.cons_append, List.nil_append, cf1_2, cf9_12, cf1_7])
      repeat' apply And.intro
      all_goals try (first | with_reducible assumption | (with_reducible refine ck_nzI ?_; simp; done) | (with_reducible refine ck_nzL ?_; simp; done) | (with_reducible refine vp_in_nI ?_ ?_ <;> first | omega | decide) | (with_reducible refine Nat.le_of_ble_eq_true ?_; rfl) | omega | exact Or.inl trivial | exact Or.inr trivial | exact Or.inl rfl | exact Or.inr rfl)
      · intro zc30
        have ze30 := zc30
        refine hB bX10_mend_35 _ _ _ _ _ _ _ kX10_mend_35 ?_
        dsimp only [bX10_mend_35, kx_wp, kx_step, kx_lI, kx_lL, kx_lA, kx_gl, kx_pI, kx_pL, kx_pR, kx_pA, kx_pV, kx_s1, kx_s2, kx_sl, kx_pre, kx_c2, kx_pl, kx_cmp, kx_oF, kx_eqN, kx_nil, kx_c1, kx_ft, kx_aI, kx_aL, kx_aR, kx_ln, Nat.reduceAdd, Option.toList, List.cons_append, List.nil_append, cf1_2, cf9_12, cf1_7]
        repeat (simp only [h64, hq, h9, ks_eq, ks_ss]; try dsimp only [kx_wp, kx_step, kx_lI, kx_lL, kx_lA, kx_gl, kx_pI, kx_pL, kx_pR, kx_pA, kx_pV, kx_s1, kx_s2, kx_sl, kx_pre, kx_c2, kx_pl, kx_cmp, kx_oF, kx_eqN, kx_nil, kx_c1, kx_ft, kx_aI, kx_aL, kx_aR, kx_ln, Nat.reduceAdd, Option.toList, List.cons_append, List.nil_append, cf1_2, cf9_12, cf1_7])
        repeat' apply And.intro
        all_goals try (first | with_reducible assumption | (with_reducible refine ck_nzI ?_; simp; done) | (with_reducible refine ck_nzL ?_; simp; done) | (with_reducible refine vp_in_nI ?_ ?_ <;> first | omega | decide) | (with_reducible refine Nat.le_of_ble_eq_true ?_; rfl) | omega | exact Or.inl trivial | exact Or.inr trivial | exact Or.inl rfl | exact Or.inr rfl)
        refine hC.1 227 _ _ _ _ _ _ _ 1 _ _ _ _ _ _ _ _ _ _ _ _ lX10_227 (ha1) ⟨by decide, rfl⟩ (hq) rfl rfl (Nat.le_of_ble_eq_true rfl) (by first | decide | omega) (by decide) (by omega) (by omega) dX10_mend_37 ?_
        refine hB bX10_mend_40 _ _ _ _ _ _ _ kX10_mend_40 ?_
        dsimp only [bX10_mend_40, kx_wp, kx_step, kx_lI, kx_lL, kx_lA, kx_gl, kx_pI, kx_pL, kx_pR, kx_pA, kx_pV, kx_s1, kx_s2, kx_sl, kx_pre, kx_c2, kx_pl, kx_cmp, kx_oF, kx_eqN, kx_nil, kx_c1, kx_ft, kx_aI, kx_aL, kx_aR, kx_ln, Nat.reduceAdd, Option.toList, List.cons_append, List.nil_append, cf1_2, cf9_12, cf1_7]
        repeat (simp only [h64, hq, h9, ks_eq, ks_ss]; try dsimp only [kx_wp, kx_step, kx_lI, kx_lL, kx_lA, kx_gl, kx_pI, kx_pL, kx_pR, kx_pA, kx_pV, kx_s1, kx_s2, kx_sl, kx_pre, kx_c2, kx_pl, kx_cmp, kx_oF, kx_eqN, kx_nil, kx_c1, kx_ft, kx_aI, kx_aL, kx_aR, kx_ln, Nat.reduceAdd, Option.toList, List.cons_append, List.nil_append, cf1_2, cf9_12, cf1_7])
        repeat' apply And.intro
        all_goals try (first | with_reducible assumption | (with_reducible refine ck_nzI ?_; simp; done) | (with_reducible refine ck_nzL ?_; simp; done) | (with_reducible refine vp_in_nI ?_ ?_ <;> first | omega | decide) | (with_reducible refine Nat.le_of_ble_eq_true ?_; rfl) | omega | exact Or.inl trivial | exact Or.inr trivial | exact Or.inl rfl | exact Or.inr rfl)
        refine hC.1 227 _ _ _ _ _ _ _ 1 _ _ _ _ _ _ _ _ _ _ _ _ lX10_227 (ha2) ⟨by decide, rfl⟩ (hq) rfl rfl (Nat.le_of_ble_eq_true rfl) (by first | decide | omega) (by decide) (by omega) (by omega) dX10_mend_44 ?_
        refine hB bX10_mend_47 _ _ _ _ _ _ _ kX10_mend_47 ?_
        dsimp only [bX10_mend_47, kx_wp, kx_step, kx_lI, kx_lL, kx_lA, kx_gl, kx_pI, kx_pL, kx_pR, kx_pA, kx_pV, kx_s1, kx_s2, kx_sl, kx_pre, kx_c2, kx_pl, kx_cmp, kx_oF, kx_eqN, kx_nil, kx_c1, kx_ft, kx_aI, kx_aL, kx_aR, kx_ln, Nat.reduceAdd, Option.toList, List.cons_append, List.nil_append, cf1_2, cf9_12, cf1_7]
        repeat (simp only [h64, hq, h9, ks_eq, ks_ss]; try dsimp only [kx_wp, kx_step, kx_lI, kx_lL, kx_lA, kx_gl, kx_pI, kx_pL, kx_pR, kx_pA, kx_pV, kx_s1, kx_s2, kx_sl, kx_pre, kx_c2, kx_pl, kx_cmp, kx_oF, kx_eqN, kx_nil, kx_c1, kx_ft, kx_aI, kx_aL, kx_aR, kx_ln, Nat.reduceAdd, Option.toList, List.cons_append, List.nil_append, cf1_2, cf9_12, cf1_7])
        repeat' apply And.intro
        all_goals try (first | with_reducible assumption | (with_reducible refine ck_nzI ?_; simp; done) | (with_reducible refine ck_nzL ?_; simp; done) | (with_reducible refine vp_in_nI ?_ ?_ <;> first | omega | decide) | (with_reducible refine Nat.le_of_ble_eq_true ?_; rfl) | omega | exact Or.inl trivial | exact Or.inr trivial | exact Or.inl rfl | exact Or.inr rfl)
        · intro zc52
          have ze52 := zc52
          refine hB bX10_mend_61 _ _ _ _ _ _ _ kX10_mend_61 ?_
          dsimp only [bX10_mend_61, kx_wp, kx_step, kx_lI, kx_lL, kx_lA, kx_gl, kx_pI, kx_pL, kx_pR, kx_pA, kx_pV, kx_s1, kx_s2, kx_sl, kx_pre, kx_c2, kx_pl, kx_cmp, kx_oF, kx_eqN, kx_nil, kx_c1, kx_ft, kx_aI, kx_aL, kx_aR, kx_ln, Nat.reduceAdd, Option.toList, List.cons_append, List.nil_append, cf1_2, cf9_12, cf1_7]
          repeat (simp only [h64, hq, h9, ks_eq, ks_ss]; try dsimp only [kx_wp, kx_step, kx_lI, kx_lL, kx_lA, kx_gl, kx_pI, kx_pL, kx_pR, kx_pA, kx_pV, kx_s1, kx_s2, kx_sl, kx_pre, kx_c2, kx_pl, kx_cmp, kx_oF, kx_eqN, kx_nil, kx_c1, kx_ft, kx_aI, kx_aL, kx_aR, kx_ln, Nat.reduceAdd, Option.toList, List.cons_append, List.nil_append, cf1_2, cf9_12, cf1_7])
          all_goals (repeat' apply And.intro)
          all_goals ((try clear hB hC); first | exact True.intro | with_reducible rfl | with_reducible assumption | (with_reducible refine vp_in_nI ?_ ?_ <;> first | omega | decide) | exact Nat.le_of_ble_eq_true rfl | (with_reducible refine ck_nzI ?_; simp; done) | (with_reducible refine ck_nzL ?_; simp; done) | (simp only [pk_us, pk_uLs, zc7, ze7, zc12, ze12, ze30, eq_true ze52, ↓reduceIte, not_true_eq_false, not_false_eq_true]; done) | (simp only [zc7, ze7, zc12, ze12, ze30, eq_true ze52, ↓reduceIte, not_true_eq_false, not_false_eq_true]; with_reducible rfl) | omega | skip)
        · intro zc52
          have ze52 := zc52
          refine hB bX10_mend_55 _ _ _ _ _ _ _ kX10_mend_55 ?_
          dsimp only [bX10_mend_55, kx_wp, kx_step, kx_lI, kx_lL, kx_lA, kx_gl, kx_pI, kx_pL, kx_pR, kx_pA, kx_pV, kx_s1, kx_s2, kx_sl, kx_pre, kx_c2, kx_pl, kx_cmp, kx_oF, kx_eqN, kx_nil, kx_c1, kx_ft, kx_aI, kx_aL, kx_aR, kx_ln, Nat.reduceAdd, Option.toList, List.cons_append, List.nil_append, cf1_2, cf9_12, cf1_7]
          repeat (simp only [h64, hq, h9, ks_eq, ks_ss]; try dsimp only [kx_wp, kx_step, kx_lI, kx_lL, kx_lA, kx_gl, kx_pI, kx_pL, kx_pR, kx_pA, kx_pV, kx_s1, kx_s2, kx_sl, kx_pre, kx_c2, kx_pl, kx_cmp, kx_oF, kx_eqN, kx_nil, kx_c1, kx_ft, kx_aI, kx_aL, kx_aR, kx_ln, Nat.reduceAdd, Option.toList, List.cons_append, List.nil_append, cf1_2, cf9_12, cf1_7])
          repeat' apply And.intro
          all_goals try (first | with_reducible assumption | (with_reducible refine ck_nzI ?_; simp; done) | (with_reducible refine ck_nzL ?_; simp; done) | (with_reducible refine vp_in_nI ?_ ?_ <;> first | omega | decide) | (with_reducible refine Nat.le_of_ble_eq_true ?_; rfl) | omega | exact Or.inl trivial | exact Or.inr trivial | exact Or.inl rfl | exact Or.inr rfl)
          · intro zc58
            have ze58 := zc58
            first | exact absurd (hz.resolve_left zc52) zc58 | exact absurd (hz.resolve_left zc52) (by assumption)
          · intro zc58
            with_reducible first | have ze58 := Decidable.not_not.mp zc58 | have ze58 := zc58
            refine hB bX10_mend_61 _ _ _ _ _ _ _ kX10_mend_61 ?_
            dsimp only [bX10_mend_61, kx_wp, kx_step, kx_lI, kx_lL, kx_lA, kx_gl, kx_pI, kx_pL, kx_pR, kx_pA, kx_pV, kx_s1, kx_s2, kx_sl, kx_pre, kx_c2, kx_pl, kx_cmp, kx_oF, kx_eqN, kx_nil, kx_c1, kx_ft, kx_aI, kx_aL, kx_aR, kx_ln, Nat.reduceAdd, Option.toList, List.cons_append, List.nil_append, cf1_2, cf9_12, cf1_7]
            repeat (simp only [h64, hq, h9, ks_eq, ks_ss]; try dsimp only [kx_wp, kx_step, kx_lI, kx_lL, kx_lA, kx_gl, kx_pI, kx_pL, kx_pR, kx_pA, kx_pV, kx_s1, kx_s2, kx_sl, kx_pre, kx_c2, kx_pl, kx_cmp, kx_oF, kx_eqN, kx_nil, kx_c1, kx_ft, kx_aI, kx_aL, kx_aR, kx_ln, Nat.reduceAdd, Option.toList, List.cons_append, List.nil_append, cf1_2, cf9_12, cf1_7])
            all_goals (repeat' apply And.intro)
            all_goals ((try clear hB hC); first | exact True.intro | with_reducible rfl | with_reducible assumption | (with_reducible refine vp_in_nI ?_ ?_ <;> first | omega | decide) | exact Nat.le_of_ble_eq_true rfl | (with_reducible refine ck_nzI ?_; simp; done) | (with_reducible refine ck_nzL ?_; simp; done) | (simp only [pk_us, pk_uLs, zc7, ze7, zc12, ze12, ze30, ze52, eq_true ze58, ↓reduceIte, not_true_eq_false, not_false_eq_true]; done) | (simp only [zc7, ze7, zc12, ze12, ze30, ze52, eq_true ze58, ↓reduceIte, not_true_eq_false, not_false_eq_true]; with_reducible rfl) | omega | skip)
      · intro zc30
        first | exact absurd rfl zc30 | exact absurd zc30 (by decide) | exact absurd (by decide) zc30 | (exfalso; first | exact absurd zc7 (by decide) | exact absurd zc12 (by decide) | exact h12 (Decidable.not_not.mp zc30) | exact zc30 rfl) | (exfalso; simp_all; done)

set_option maxRecDepth 100000 in
set_option maxHeartbeats 4000000 in
theorem ct_X10_mend_t2 (l : Launch) (G : kx_G) {P : kx_P} {sz : Nat} {sv : Value} {K : Nat → Int32} (h64 : P 64 = kO 10 (kf (cr10 sv) K)) {cl : Nat} {cn : Nat → Nat} (h69 : P 69 = kR 8 (fun i => if i < cl then some (cn i) else none)) (h7 : K 7 = nI cl) (hcl : cl ≤ 8) {c : Nat} (hc : c < cl) {w : Nat} {V T Q Fo St Al Wm S C : Nat → Int32} {d : Int64} {h : Value} (H : cx_R P (cn c) w V T Q Fo St Al Wm) (hs : P (w + 5) = kI 0 64 S) (hq : P (cn c) = kO 1 (kf (cr1 (.ref w) d h) C)) (h12 : ¬ V 12 = 0) {wm : Nat} (h14 : V 14 = nI wm) (hwm : 1 ≤ wm ∧ wm ≤ 24) {a p : Nat} (hd : d = lN a) (ha : a < 86400000000) (h8 : C 8 = nI p) (hp : p < wm) {a1 a2 : Nat} (htr : (cx_fi (fun k => cx_sx T wm (a / 3600000000 + 1) ((p + k) % wm) (24) (0)) wm 0) = nI a1) (hlf : (cx_fi (fun k => cx_sx T wm (a / 3600000000 + 1) ((p + wm - k) % wm) (24) (0)) wm 0) = nI a2) (ht24 : a1 ≤ 24) (hm1 : ¬ nI a1 = -1) (hm2 : ¬ nI a2 = -1)  : kx_M l G sX10_mend 6 0 0 [.ref 64, .int (nI c), .int (2)] P sz (some (.int (cx_md 2 (nI a1) (nI a2) (cx_ro T wm p a1) (C 7)))) P sz := by
  have h64c : 64 ≤ cn c := H.2.1
  have hne : ¬ cn c = w := by have := H.2.2.1; omega
  have h9 : P w = kO 9 (kf (cr9 w) V) := H.2.2.2.2.2.1
  have h9c : ∀ y, kx_set P (cn c) y w = kO 9 (kf (cr9 w) V) := fun y => (ks_ne (fun z => hne z.symm)).trans h9
  have hA : P 65 = kO 0 (kf cr0 Al) := H.2.2.2.2.2.2.2.2.2.2.1
  have hT : P (w + 1) = kI 0 24 T := H.2.2.2.2.2.2.1
  have hPW : cW P (cn c) w S d h C = P := by unfold cW; rw [ks_id hs, ks_id hq]
  have ha1 := ct_X1_actsToStep_t l G (sz := sz) H (S := S) (C := C) (h := h) h14 hwm hd ha h8 hp
  have ha2 := ct_X1_actsToStep_l l G (sz := sz) H (S := S) (C := C) (h := h) h14 hwm hd ha h8 hp
  rw [hPW, htr] at ha1
  rw [hPW, hlf] at ha2
  have hr9 := ct_X1_ringsOfTrips l G (sz := sz) H (S := S) (C := C) (d := d) (h := h) h14 hwm h8 hp ht24
  rw [hPW] at hr9
  refine kx_mk kx_tab kxLok_X10 (ini := false) [some (.ref 64), some (.int (nI c)), some (.int (2)), none, none, none, none, none] ⟨by decide, rfl, by decide, by decide⟩ (⟨_, rfl⟩) rfl rfl (fun g hB hC => ?_)
  refine hB bX10_mend_0 _ _ _ _ _ _ _ kX10_mend_0 ?_
  dsimp only [bX10_mend_0, kx_wp, kx_step, kx_lI, kx_lL, kx_lA, kx_gl, kx_pI, kx_pL, kx_pR, kx_pA, kx_pV, kx_s1, kx_s2, kx_sl, kx_pre, kx_c2, kx_pl, kx_cmp, kx_oF, kx_eqN, kx_nil, kx_c1, kx_ft, kx_aI, kx_aL, kx_aR, kx_ln, Nat.reduceAdd, Option.toList, List.cons_append, List.nil_append, cf1_2, cf9_12, cf1_7]
  repeat (simp only [h64, hq, h9, ks_eq, ks_ss]; try dsimp only [kx_wp, kx_step, kx_lI, kx_lL, kx_lA, kx_gl, kx_pI, kx_pL, kx_pR, kx_pA, kx_pV, kx_s1, kx_s2, kx_sl, kx_pre, kx_c2, kx_pl, kx_cmp, kx_oF, kx_eqN, kx_nil, kx_c1, kx_ft, kx_aI, kx_aL, kx_aR, kx_ln, Nat.reduceAdd, Option.toList, List.cons_append, List.nil_append, cf1_2, cf9_12, cf1_7])
  repeat' apply And.intro
  all_goals try (first | with_reducible assumption | (with_reducible refine ck_nzI ?_; simp; done) | (with_reducible refine ck_nzL ?_; simp; done) | (with_reducible refine vp_in_nI ?_ ?_ <;> first | omega | decide) | (with_reducible refine Nat.le_of_ble_eq_true ?_; rfl) | omega | exact Or.inl trivial | exact Or.inr trivial | exact Or.inl rfl | exact Or.inr rfl)
  refine hC.1 138 _ _ _ _ _ _ _ 10 _ _ _ _ _ _ _ _ _ _ _ _ lX10_138 (ct_X10_theClock l G h64 h69 h7 hcl hc) ⟨by decide, rfl⟩ (h64) rfl rfl (Nat.le_of_ble_eq_true rfl) (by first | decide | omega) (by decide) (by omega) (by omega) dX10_mend_2 ?_
  refine hB bX10_mend_5 _ _ _ _ _ _ _ kX10_mend_5 ?_
  dsimp only [bX10_mend_5, kx_wp, kx_step, kx_lI, kx_lL, kx_lA, kx_gl, kx_pI, kx_pL, kx_pR, kx_pA, kx_pV, kx_s1, kx_s2, kx_sl, kx_pre, kx_c2, kx_pl, kx_cmp, kx_oF, kx_eqN, kx_nil, kx_c1, kx_ft, kx_aI, kx_aL, kx_aR, kx_ln, Nat.reduceAdd, Option.toList, List.cons_append, List.nil_append, cf1_2, cf9_12, cf1_7]
  repeat (simp only [h64, hq, h9, ks_eq, ks_ss]; try dsimp only [kx_wp, kx_step, kx_lI, kx_lL, kx_lA, kx_gl, kx_pI, kx_pL, kx_pR, kx_pA, kx_pV, kx_s1, kx_s2, kx_sl, kx_pre, kx_c2, kx_pl, kx_cmp, kx_oF, kx_eqN, kx_nil, kx_c1, kx_ft, kx_aI, kx_aL, kx_aR, kx_ln, Nat.reduceAdd, Option.toList, List.cons_append, List.nil_append, cf1_2, cf9_12, cf1_7])
  repeat' apply And.intro
  all_goals try (first | with_reducible assumption | (with_reducible refine ck_nzI ?_; simp; done) | (with_reducible refine ck_nzL ?_; simp; done) | (with_reducible refine vp_in_nI ?_ ?_ <;> first | omega | decide) | (with_reducible refine Nat.le_of_ble_eq_true ?_; rfl) | omega | exact Or.inl trivial | exact Or.inr trivial | exact Or.inl rfl | exact Or.inr rfl)
  · intro zc7
    first | exact absurd rfl zc7 | exact absurd zc7 (by decide) | exact absurd (by decide) zc7 | (exfalso; first | exact absurd zc7 (by decide) | exact absurd zc12 (by decide) | exact h12 (Decidable.not_not.mp zc30) | exact zc30 rfl | exact hm1 zc52 | exact hm2 (Decidable.not_not.mp zc58) | exact zc101 rfl | exact absurd zc101 (by decide) | exact zc125 rfl | exact absurd zc125 (by decide)) | (exfalso; simp_all; done)
  · intro zc7
    with_reducible first | have ze7 := Int32.not_lt.mp zc7 | have ze7 := zc7
    refine hB bX10_mend_10 _ _ _ _ _ _ _ kX10_mend_10 ?_
    dsimp only [bX10_mend_10, kx_wp, kx_step, kx_lI, kx_lL, kx_lA, kx_gl, kx_pI, kx_pL, kx_pR, kx_pA, kx_pV, kx_s1, kx_s2, kx_sl, kx_pre, kx_c2, kx_pl, kx_cmp, kx_oF, kx_eqN, kx_nil, kx_c1, kx_ft, kx_aI, kx_aL, kx_aR, kx_ln, Nat.reduceAdd, Option.toList, List.cons_append, List.nil_append, cf1_2, cf9_12, cf1_7]
    repeat (simp only [h64, hq, h9, ks_eq, ks_ss]; try dsimp only [kx_wp, kx_step, kx_lI, kx_lL, kx_lA, kx_gl, kx_pI, kx_pL, kx_pR, kx_pA, kx_pV, kx_s1, kx_s2, kx_sl, kx_pre, kx_c2, kx_pl, kx_cmp, kx_oF, kx_eqN, kx_nil, kx_c1, kx_ft, kx_aI, kx_aL, kx_aR, kx_ln, Nat.reduceAdd, Option.toList, List.cons_append, List.nil_append, cf1_2, cf9_12, cf1_7])
    repeat' apply And.intro
    all_goals try (first | with_reducible assumption | (with_reducible refine ck_nzI ?_; simp; done) | (with_reducible refine ck_nzL ?_; simp; done) | (with_reducible refine vp_in_nI ?_ ?_ <;> first | omega | decide) | (with_reducible refine Nat.le_of_ble_eq_true ?_; rfl) | omega | exact Or.inl trivial | exact Or.inr trivial | exact Or.inl rfl | exact Or.inr rfl)
    · intro zc12
      first | exact absurd rfl zc12 | exact absurd zc12 (by decide) | exact absurd (by decide) zc12 | (exfalso; first | exact absurd zc7 (by decide) | exact absurd zc12 (by decide) | exact h12 (Decidable.not_not.mp zc30) | exact zc30 rfl | exact hm1 zc52 | exact hm2 (Decidable.not_not.mp zc58) | exact zc101 rfl | exact absurd zc101 (by decide) | exact zc125 rfl | exact absurd zc125 (by decide)) | (exfalso; simp_all; done)
    · intro zc12
      with_reducible first | have ze12 := Int32.not_lt.mp zc12 | have ze12 := zc12
      refine hB bX10_mend_15 _ _ _ _ _ _ _ kX10_mend_15 ?_
      dsimp only [bX10_mend_15, kx_wp, kx_step, kx_lI, kx_lL, kx_lA, kx_gl, kx_pI, kx_pL, kx_pR, kx_pA, kx_pV, kx_s1, kx_s2, kx_sl, kx_pre, kx_c2, kx_pl, kx_cmp, kx_oF, kx_eqN, kx_nil, kx_c1, kx_ft, kx_aI, kx_aL, kx_aR, kx_ln, Nat.reduceAdd, Option.toList, List.cons_append, List.nil_append, cf1_2, cf9_12, cf1_7]
      repeat (simp only [h64, hq, h9, ks_eq, ks_ss]; try dsimp only [kx_wp, kx_step, kx_lI, kx_lL, kx_lA, kx_gl, kx_pI, kx_pL, kx_pR, kx_pA, kx_pV, kx_s1, kx_s2, kx_sl, kx_pre, kx_c2, kx_pl, kx_cmp, kx_oF, kx_eqN, kx_nil, kx_c1, kx_ft, kx_aI, kx_aL, kx_aR, kx_ln, Nat.reduceAdd, Option.toList, List.cons_append, List.nil_append, cf1_2, cf9_12, cf1_7])
      repeat' apply And.intro
      all_goals try (first | with_reducible assumption | (with_reducible refine ck_nzI ?_; simp; done) | (with_reducible refine ck_nzL ?_; simp; done) | (with_reducible refine vp_in_nI ?_ ?_ <;> first | omega | decide) | (with_reducible refine Nat.le_of_ble_eq_true ?_; rfl) | omega | exact Or.inl trivial | exact Or.inr trivial | exact Or.inl rfl | exact Or.inr rfl)
      refine hC.2.1 95 _ _ _ _ _ _ _ _ _ _ _ _ _ _ _ _ _ lX10_95 (ct_X10_need l G (b := 1) (by decide)) rfl rfl (Nat.le_of_ble_eq_true rfl) (by first | decide | omega) (by decide) (by omega) (by omega) dX10_mend_20 ?_
      refine hB bX10_mend_23 _ _ _ _ _ _ _ kX10_mend_23 ?_
      dsimp only [bX10_mend_23, kx_wp, kx_step, kx_lI, kx_lL, kx_lA, kx_gl, kx_pI, kx_pL, kx_pR, kx_pA, kx_pV, kx_s1, kx_s2, kx_sl, kx_pre, kx_c2, kx_pl, kx_cmp, kx_oF, kx_eqN, kx_nil, kx_c1, kx_ft, kx_aI, kx_aL, kx_aR, kx_ln, Nat.reduceAdd, Option.toList, List.cons_append, List.nil_append, cf1_2, cf9_12, cf1_7]
      repeat (simp only [h64, hq, h9, ks_eq, ks_ss]; try dsimp only [kx_wp, kx_step, kx_lI, kx_lL, kx_lA, kx_gl, kx_pI, kx_pL, kx_pR, kx_pA, kx_pV, kx_s1, kx_s2, kx_sl, kx_pre, kx_c2, kx_pl, kx_cmp, kx_oF, kx_eqN, kx_nil, kx_c1, kx_ft, kx_aI, kx_aL, kx_aR, kx_ln, Nat.reduceAdd, Option.toList, List.cons_append, List.nil_append, cf1_2, cf9_12, cf1_7])
      repeat' apply And.intro
      all_goals try (first | with_reducible assumption | (with_reducible refine ck_nzI ?_; simp; done) | (with_reducible refine ck_nzL ?_; simp; done) | (with_reducible refine vp_in_nI ?_ ?_ <;> first | omega | decide) | (with_reducible refine Nat.le_of_ble_eq_true ?_; rfl) | omega | exact Or.inl trivial | exact Or.inr trivial | exact Or.inl rfl | exact Or.inr rfl)
      · intro zc30
        have ze30 := zc30
        refine hB bX10_mend_35 _ _ _ _ _ _ _ kX10_mend_35 ?_
        dsimp only [bX10_mend_35, kx_wp, kx_step, kx_lI, kx_lL, kx_lA, kx_gl, kx_pI, kx_pL, kx_pR, kx_pA, kx_pV, kx_s1, kx_s2, kx_sl, kx_pre, kx_c2, kx_pl, kx_cmp, kx_oF, kx_eqN, kx_nil, kx_c1, kx_ft, kx_aI, kx_aL, kx_aR, kx_ln, Nat.reduceAdd, Option.toList, List.cons_append, List.nil_append, cf1_2, cf9_12, cf1_7]
        repeat (simp only [h64, hq, h9, ks_eq, ks_ss]; try dsimp only [kx_wp, kx_step, kx_lI, kx_lL, kx_lA, kx_gl, kx_pI, kx_pL, kx_pR, kx_pA, kx_pV, kx_s1, kx_s2, kx_sl, kx_pre, kx_c2, kx_pl, kx_cmp, kx_oF, kx_eqN, kx_nil, kx_c1, kx_ft, kx_aI, kx_aL, kx_aR, kx_ln, Nat.reduceAdd, Option.toList, List.cons_append, List.nil_append, cf1_2, cf9_12, cf1_7])
        repeat' apply And.intro
        all_goals try (first | with_reducible assumption | (with_reducible refine ck_nzI ?_; simp; done) | (with_reducible refine ck_nzL ?_; simp; done) | (with_reducible refine vp_in_nI ?_ ?_ <;> first | omega | decide) | (with_reducible refine Nat.le_of_ble_eq_true ?_; rfl) | omega | exact Or.inl trivial | exact Or.inr trivial | exact Or.inl rfl | exact Or.inr rfl)
        refine hC.1 227 _ _ _ _ _ _ _ 1 _ _ _ _ _ _ _ _ _ _ _ _ lX10_227 (ha1) ⟨by decide, rfl⟩ (hq) rfl rfl (Nat.le_of_ble_eq_true rfl) (by first | decide | omega) (by decide) (by omega) (by omega) dX10_mend_37 ?_
        refine hB bX10_mend_40 _ _ _ _ _ _ _ kX10_mend_40 ?_
        dsimp only [bX10_mend_40, kx_wp, kx_step, kx_lI, kx_lL, kx_lA, kx_gl, kx_pI, kx_pL, kx_pR, kx_pA, kx_pV, kx_s1, kx_s2, kx_sl, kx_pre, kx_c2, kx_pl, kx_cmp, kx_oF, kx_eqN, kx_nil, kx_c1, kx_ft, kx_aI, kx_aL, kx_aR, kx_ln, Nat.reduceAdd, Option.toList, List.cons_append, List.nil_append, cf1_2, cf9_12, cf1_7]
        repeat (simp only [h64, hq, h9, ks_eq, ks_ss]; try dsimp only [kx_wp, kx_step, kx_lI, kx_lL, kx_lA, kx_gl, kx_pI, kx_pL, kx_pR, kx_pA, kx_pV, kx_s1, kx_s2, kx_sl, kx_pre, kx_c2, kx_pl, kx_cmp, kx_oF, kx_eqN, kx_nil, kx_c1, kx_ft, kx_aI, kx_aL, kx_aR, kx_ln, Nat.reduceAdd, Option.toList, List.cons_append, List.nil_append, cf1_2, cf9_12, cf1_7])
        repeat' apply And.intro
        all_goals try (first | with_reducible assumption | (with_reducible refine ck_nzI ?_; simp; done) | (with_reducible refine ck_nzL ?_; simp; done) | (with_reducible refine vp_in_nI ?_ ?_ <;> first | omega | decide) | (with_reducible refine Nat.le_of_ble_eq_true ?_; rfl) | omega | exact Or.inl trivial | exact Or.inr trivial | exact Or.inl rfl | exact Or.inr rfl)
        refine hC.1 227 _ _ _ _ _ _ _ 1 _ _ _ _ _ _ _ _ _ _ _ _ lX10_227 (ha2) ⟨by decide, rfl⟩ (hq) rfl rfl (Nat.le_of_ble_eq_true rfl) (by first | decide | omega) (by decide) (by omega) (by omega) dX10_mend_44 ?_
        refine hB bX10_mend_47 _ _ _ _ _ _ _ kX10_mend_47 ?_
        dsimp only [bX10_mend_47, kx_wp, kx_step, kx_lI, kx_lL, kx_lA, kx_gl, kx_pI, kx_pL, kx_pR, kx_pA, kx_pV, kx_s1, kx_s2, kx_sl, kx_pre, kx_c2, kx_pl, kx_cmp, kx_oF, kx_eqN, kx_nil, kx_c1, kx_ft, kx_aI, kx_aL, kx_aR, kx_ln, Nat.reduceAdd, Option.toList, List.cons_append, List.nil_append, cf1_2, cf9_12, cf1_7]
        repeat (simp only [h64, hq, h9, ks_eq, ks_ss]; try dsimp only [kx_wp, kx_step, kx_lI, kx_lL, kx_lA, kx_gl, kx_pI, kx_pL, kx_pR, kx_pA, kx_pV, kx_s1, kx_s2, kx_sl, kx_pre, kx_c2, kx_pl, kx_cmp, kx_oF, kx_eqN, kx_nil, kx_c1, kx_ft, kx_aI, kx_aL, kx_aR, kx_ln, Nat.reduceAdd, Option.toList, List.cons_append, List.nil_append, cf1_2, cf9_12, cf1_7])
        repeat' apply And.intro
        all_goals try (first | with_reducible assumption | (with_reducible refine ck_nzI ?_; simp; done) | (with_reducible refine ck_nzL ?_; simp; done) | (with_reducible refine vp_in_nI ?_ ?_ <;> first | omega | decide) | (with_reducible refine Nat.le_of_ble_eq_true ?_; rfl) | omega | exact Or.inl trivial | exact Or.inr trivial | exact Or.inl rfl | exact Or.inr rfl)
        · intro zc52
          first | exact absurd rfl zc52 | exact absurd zc52 (by decide) | exact absurd (by decide) zc52 | (exfalso; first | exact absurd zc7 (by decide) | exact absurd zc12 (by decide) | exact h12 (Decidable.not_not.mp zc30) | exact zc30 rfl | exact hm1 zc52 | exact hm2 (Decidable.not_not.mp zc58) | exact zc101 rfl | exact absurd zc101 (by decide) | exact zc125 rfl | exact absurd zc125 (by decide)) | (exfalso; simp_all; done)
        · intro zc52
          have ze52 := zc52
          refine hB bX10_mend_55 _ _ _ _ _ _ _ kX10_mend_55 ?_
          dsimp only [bX10_mend_55, kx_wp, kx_step, kx_lI, kx_lL, kx_lA, kx_gl, kx_pI, kx_pL, kx_pR, kx_pA, kx_pV, kx_s1, kx_s2, kx_sl, kx_pre, kx_c2, kx_pl, kx_cmp, kx_oF, kx_eqN, kx_nil, kx_c1, kx_ft, kx_aI, kx_aL, kx_aR, kx_ln, Nat.reduceAdd, Option.toList, List.cons_append, List.nil_append, cf1_2, cf9_12, cf1_7]
          repeat (simp only [h64, hq, h9, ks_eq, ks_ss]; try dsimp only [kx_wp, kx_step, kx_lI, kx_lL, kx_lA, kx_gl, kx_pI, kx_pL, kx_pR, kx_pA, kx_pV, kx_s1, kx_s2, kx_sl, kx_pre, kx_c2, kx_pl, kx_cmp, kx_oF, kx_eqN, kx_nil, kx_c1, kx_ft, kx_aI, kx_aL, kx_aR, kx_ln, Nat.reduceAdd, Option.toList, List.cons_append, List.nil_append, cf1_2, cf9_12, cf1_7])
          repeat' apply And.intro
          all_goals try (first | with_reducible assumption | (with_reducible refine ck_nzI ?_; simp; done) | (with_reducible refine ck_nzL ?_; simp; done) | (with_reducible refine vp_in_nI ?_ ?_ <;> first | omega | decide) | (with_reducible refine Nat.le_of_ble_eq_true ?_; rfl) | omega | exact Or.inl trivial | exact Or.inr trivial | exact Or.inl rfl | exact Or.inr rfl)
          · intro zc58
            have ze58 := zc58
            refine hB bX10_mend_63 _ _ _ _ _ _ _ kX10_mend_63 ?_
            dsimp only [bX10_mend_63, kx_wp, kx_step, kx_lI, kx_lL, kx_lA, kx_gl, kx_pI, kx_pL, kx_pR, kx_pA, kx_pV, kx_s1, kx_s2, kx_sl, kx_pre, kx_c2, kx_pl, kx_cmp, kx_oF, kx_eqN, kx_nil, kx_c1, kx_ft, kx_aI, kx_aL, kx_aR, kx_ln, Nat.reduceAdd, Option.toList, List.cons_append, List.nil_append, cf1_2, cf9_12, cf1_7]
            repeat (simp only [h64, hq, h9, ks_eq, ks_ss]; try dsimp only [kx_wp, kx_step, kx_lI, kx_lL, kx_lA, kx_gl, kx_pI, kx_pL, kx_pR, kx_pA, kx_pV, kx_s1, kx_s2, kx_sl, kx_pre, kx_c2, kx_pl, kx_cmp, kx_oF, kx_eqN, kx_nil, kx_c1, kx_ft, kx_aI, kx_aL, kx_aR, kx_ln, Nat.reduceAdd, Option.toList, List.cons_append, List.nil_append, cf1_2, cf9_12, cf1_7])
            repeat' apply And.intro
            all_goals try (first | with_reducible assumption | (with_reducible refine ck_nzI ?_; simp; done) | (with_reducible refine ck_nzL ?_; simp; done) | (with_reducible refine vp_in_nI ?_ ?_ <;> first | omega | decide) | (with_reducible refine Nat.le_of_ble_eq_true ?_; rfl) | omega | exact Or.inl trivial | exact Or.inr trivial | exact Or.inl rfl | exact Or.inr rfl)
            refine hC.1 230 _ _ _ _ _ _ _ 1 _ _ _ _ _ _ _ _ _ _ _ _ lX10_230 (hr9) ⟨by decide, rfl⟩ (hq) rfl rfl (Nat.le_of_ble_eq_true rfl) (by first | decide | omega) (by decide) (by omega) (by omega) dX10_mend_66 ?_
            refine hB bX10_mend_69 _ _ _ _ _ _ _ kX10_mend_69 ?_
            dsimp only [bX10_mend_69, kx_wp, kx_step, kx_lI, kx_lL, kx_lA, kx_gl, kx_pI, kx_pL, kx_pR, kx_pA, kx_pV, kx_s1, kx_s2, kx_sl, kx_pre, kx_c2, kx_pl, kx_cmp, kx_oF, kx_eqN, kx_nil, kx_c1, kx_ft, kx_aI, kx_aL, kx_aR, kx_ln, Nat.reduceAdd, Option.toList, List.cons_append, List.nil_append, cf1_2, cf9_12, cf1_7]
            repeat (simp only [h64, hq, h9, ks_eq, ks_ss]; try dsimp only [kx_wp, kx_step, kx_lI, kx_lL, kx_lA, kx_gl, kx_pI, kx_pL, kx_pR, kx_pA, kx_pV, kx_s1, kx_s2, kx_sl, kx_pre, kx_c2, kx_pl, kx_cmp, kx_oF, kx_eqN, kx_nil, kx_c1, kx_ft, kx_aI, kx_aL, kx_aR, kx_ln, Nat.reduceAdd, Option.toList, List.cons_append, List.nil_append, cf1_2, cf9_12, cf1_7])
            repeat' apply And.intro
            all_goals try (first | with_reducible assumption | (with_reducible refine ck_nzI ?_; simp; done) | (with_reducible refine ck_nzL ?_; simp; done) | (with_reducible refine vp_in_nI ?_ ?_ <;> first | omega | decide) | (with_reducible refine Nat.le_of_ble_eq_true ?_; rfl) | omega | exact Or.inl trivial | exact Or.inr trivial | exact Or.inl rfl | exact Or.inr rfl)
            · intro zc77
              with_reducible first | have ze77 := Int32.not_le.mpr zc77 | have ze77 := zc77
              refine hB bX10_mend_93 _ _ _ _ _ _ _ kX10_mend_93 ?_
              dsimp only [bX10_mend_93, kx_wp, kx_step, kx_lI, kx_lL, kx_lA, kx_gl, kx_pI, kx_pL, kx_pR, kx_pA, kx_pV, kx_s1, kx_s2, kx_sl, kx_pre, kx_c2, kx_pl, kx_cmp, kx_oF, kx_eqN, kx_nil, kx_c1, kx_ft, kx_aI, kx_aL, kx_aR, kx_ln, Nat.reduceAdd, Option.toList, List.cons_append, List.nil_append, cf1_2, cf9_12, cf1_7]
              repeat (simp only [h64, hq, h9, ks_eq, ks_ss]; try dsimp only [kx_wp, kx_step, kx_lI, kx_lL, kx_lA, kx_gl, kx_pI, kx_pL, kx_pR, kx_pA, kx_pV, kx_s1, kx_s2, kx_sl, kx_pre, kx_c2, kx_pl, kx_cmp, kx_oF, kx_eqN, kx_nil, kx_c1, kx_ft, kx_aI, kx_aL, kx_aR, kx_ln, Nat.reduceAdd, Option.toList, List.cons_append, List.nil_append, cf1_2, cf9_12, cf1_7])
              repeat' apply And.intro
              all_goals try (first | with_reducible assumption | (with_reducible refine ck_nzI ?_; simp; done) | (with_reducible refine ck_nzL ?_; simp; done) | (with_reducible refine vp_in_nI ?_ ?_ <;> first | omega | decide) | (with_reducible refine Nat.le_of_ble_eq_true ?_; rfl) | omega | exact Or.inl trivial | exact Or.inr trivial | exact Or.inl rfl | exact Or.inr rfl)
              refine hB bX10_mend_98 _ _ _ _ _ _ _ kX10_mend_98 ?_
              dsimp only [bX10_mend_98, kx_wp, kx_step, kx_lI, kx_lL, kx_lA, kx_gl, kx_pI, kx_pL, kx_pR, kx_pA, kx_pV, kx_s1, kx_s2, kx_sl, kx_pre, kx_c2, kx_pl, kx_cmp, kx_oF, kx_eqN, kx_nil, kx_c1, kx_ft, kx_aI, kx_aL, kx_aR, kx_ln, Nat.reduceAdd, Option.toList, List.cons_append, List.nil_append, cf1_2, cf9_12, cf1_7]
              repeat (simp only [h64, hq, h9, ks_eq, ks_ss]; try dsimp only [kx_wp, kx_step, kx_lI, kx_lL, kx_lA, kx_gl, kx_pI, kx_pL, kx_pR, kx_pA, kx_pV, kx_s1, kx_s2, kx_sl, kx_pre, kx_c2, kx_pl, kx_cmp, kx_oF, kx_eqN, kx_nil, kx_c1, kx_ft, kx_aI, kx_aL, kx_aR, kx_ln, Nat.reduceAdd, Option.toList, List.cons_append, List.nil_append, cf1_2, cf9_12, cf1_7])
              repeat' apply And.intro
              all_goals try (first | with_reducible assumption | (with_reducible refine ck_nzI ?_; simp; done) | (with_reducible refine ck_nzL ?_; simp; done) | (with_reducible refine vp_in_nI ?_ ?_ <;> first | omega | decide) | (with_reducible refine Nat.le_of_ble_eq_true ?_; rfl) | omega | exact Or.inl trivial | exact Or.inr trivial | exact Or.inl rfl | exact Or.inr rfl)
              · intro zc101
                have ze101 := zc101
                refine hB bX10_mend_123 _ _ _ _ _ _ _ kX10_mend_123 ?_
                dsimp only [bX10_mend_123, kx_wp, kx_step, kx_lI, kx_lL, kx_lA, kx_gl, kx_pI, kx_pL, kx_pR, kx_pA, kx_pV, kx_s1, kx_s2, kx_sl, kx_pre, kx_c2, kx_pl, kx_cmp, kx_oF, kx_eqN, kx_nil, kx_c1, kx_ft, kx_aI, kx_aL, kx_aR, kx_ln, Nat.reduceAdd, Option.toList, List.cons_append, List.nil_append, cf1_2, cf9_12, cf1_7]
                repeat (simp only [h64, hq, h9, ks_eq, ks_ss]; try dsimp only [kx_wp, kx_step, kx_lI, kx_lL, kx_lA, kx_gl, kx_pI, kx_pL, kx_pR, kx_pA, kx_pV, kx_s1, kx_s2, kx_sl, kx_pre, kx_c2, kx_pl, kx_cmp, kx_oF, kx_eqN, kx_nil, kx_c1, kx_ft, kx_aI, kx_aL, kx_aR, kx_ln, Nat.reduceAdd, Option.toList, List.cons_append, List.nil_append, cf1_2, cf9_12, cf1_7])
                repeat' apply And.intro
                all_goals try (first | with_reducible assumption | (with_reducible refine ck_nzI ?_; simp; done) | (with_reducible refine ck_nzL ?_; simp; done) | (with_reducible refine vp_in_nI ?_ ?_ <;> first | omega | decide) | (with_reducible refine Nat.le_of_ble_eq_true ?_; rfl) | omega | exact Or.inl trivial | exact Or.inr trivial | exact Or.inl rfl | exact Or.inr rfl)
                · intro zc125
                  have ze125 := zc125
                  refine hB bX10_mend_141 _ _ _ _ _ _ _ kX10_mend_141 ?_
                  dsimp only [bX10_mend_141, kx_wp, kx_step, kx_lI, kx_lL, kx_lA, kx_gl, kx_pI, kx_pL, kx_pR, kx_pA, kx_pV, kx_s1, kx_s2, kx_sl, kx_pre, kx_c2, kx_pl, kx_cmp, kx_oF, kx_eqN, kx_nil, kx_c1, kx_ft, kx_aI, kx_aL, kx_aR, kx_ln, Nat.reduceAdd, Option.toList, List.cons_append, List.nil_append, cf1_2, cf9_12, cf1_7]
                  repeat (simp only [h64, hq, h9, ks_eq, ks_ss]; try dsimp only [kx_wp, kx_step, kx_lI, kx_lL, kx_lA, kx_gl, kx_pI, kx_pL, kx_pR, kx_pA, kx_pV, kx_s1, kx_s2, kx_sl, kx_pre, kx_c2, kx_pl, kx_cmp, kx_oF, kx_eqN, kx_nil, kx_c1, kx_ft, kx_aI, kx_aL, kx_aR, kx_ln, Nat.reduceAdd, Option.toList, List.cons_append, List.nil_append, cf1_2, cf9_12, cf1_7])
                  repeat' apply And.intro
                  all_goals try (first | with_reducible assumption | (with_reducible refine ck_nzI ?_; simp; done) | (with_reducible refine ck_nzL ?_; simp; done) | (with_reducible refine vp_in_nI ?_ ?_ <;> first | omega | decide) | (with_reducible refine Nat.le_of_ble_eq_true ?_; rfl) | omega | exact Or.inl trivial | exact Or.inr trivial | exact Or.inl rfl | exact Or.inr rfl)
                  · intro zc143
                    have ze143 := zc143
                    refine hB bX10_mend_150 _ _ _ _ _ _ _ kX10_mend_150 ?_
                    dsimp only [bX10_mend_150, kx_wp, kx_step, kx_lI, kx_lL, kx_lA, kx_gl, kx_pI, kx_pL, kx_pR, kx_pA, kx_pV, kx_s1, kx_s2, kx_sl, kx_pre, kx_c2, kx_pl, kx_cmp, kx_oF, kx_eqN, kx_nil, kx_c1, kx_ft, kx_aI, kx_aL, kx_aR, kx_ln, Nat.reduceAdd, Option.toList, List.cons_append, List.nil_append, cf1_2, cf9_12, cf1_7]
                    repeat (simp only [h64, hq, h9, ks_eq, ks_ss]; try dsimp only [kx_wp, kx_step, kx_lI, kx_lL, kx_lA, kx_gl, kx_pI, kx_pL, kx_pR, kx_pA, kx_pV, kx_s1, kx_s2, kx_sl, kx_pre, kx_c2, kx_pl, kx_cmp, kx_oF, kx_eqN, kx_nil, kx_c1, kx_ft, kx_aI, kx_aL, kx_aR, kx_ln, Nat.reduceAdd, Option.toList, List.cons_append, List.nil_append, cf1_2, cf9_12, cf1_7])
                    repeat' apply And.intro
                    all_goals try (first | with_reducible assumption | (with_reducible refine ck_nzI ?_; simp; done) | (with_reducible refine ck_nzL ?_; simp; done) | (with_reducible refine vp_in_nI ?_ ?_ <;> first | omega | decide) | (with_reducible refine Nat.le_of_ble_eq_true ?_; rfl) | omega | exact Or.inl trivial | exact Or.inr trivial | exact Or.inl rfl | exact Or.inr rfl)
                    refine hB bX10_mend_151 _ _ _ _ _ _ _ kX10_mend_151 ?_
                    dsimp only [bX10_mend_151, kx_wp, kx_step, kx_lI, kx_lL, kx_lA, kx_gl, kx_pI, kx_pL, kx_pR, kx_pA, kx_pV, kx_s1, kx_s2, kx_sl, kx_pre, kx_c2, kx_pl, kx_cmp, kx_oF, kx_eqN, kx_nil, kx_c1, kx_ft, kx_aI, kx_aL, kx_aR, kx_ln, Nat.reduceAdd, Option.toList, List.cons_append, List.nil_append, cf1_2, cf9_12, cf1_7]
                    repeat (simp only [h64, hq, h9, ks_eq, ks_ss]; try dsimp only [kx_wp, kx_step, kx_lI, kx_lL, kx_lA, kx_gl, kx_pI, kx_pL, kx_pR, kx_pA, kx_pV, kx_s1, kx_s2, kx_sl, kx_pre, kx_c2, kx_pl, kx_cmp, kx_oF, kx_eqN, kx_nil, kx_c1, kx_ft, kx_aI, kx_aL, kx_aR, kx_ln, Nat.reduceAdd, Option.toList, List.cons_append, List.nil_append, cf1_2, cf9_12, cf1_7])
                    all_goals (repeat' apply And.intro)
                    all_goals ((try clear hB hC); first | exact True.intro | first | exact absurd zc106 (by decide) | exact absurd rfl zc106 | exact absurd zc130 (by decide) | exact absurd rfl zc130 | exact absurd zc143 (by decide) | exact absurd rfl zc143 | exact absurd zc101 (by decide) | exact absurd rfl zc101 | exact absurd zc125 (by decide) | exact absurd rfl zc125 | (simp only [cx_md, zc7, ze7, zc12, ze12, ze30, ze52, ze58, zc77, ze77, ze101, ze125, eq_true ze143, ↓reduceIte, Nat.reduceEqDiff, OfNat.ofNat_ne_zero, OfNat.ofNat_ne_one, Nat.succ_ne_zero]; done) | (simp only [cx_md, zc7, ze7, zc12, ze12, ze30, ze52, ze58, zc77, ze77, ze101, ze125, eq_true ze143, ↓reduceIte]; done) | (simp only [cx_md, zc7, ze7, zc12, ze12, ze30, ze52, ze58, zc77, ze77, ze101, ze125, eq_true ze143, ↓reduceIte]; rfl) | (unfold cx_md; simp only [zc7, ze7, zc12, ze12, ze30, ze52, ze58, zc77, ze77, ze101, ze125, eq_true ze143, ↓reduceIte]; rfl))
                  · intro zc143
                    have ze143 := zc143
                    refine hB bX10_mend_146 _ _ _ _ _ _ _ kX10_mend_146 ?_
                    dsimp only [bX10_mend_146, kx_wp, kx_step, kx_lI, kx_lL, kx_lA, kx_gl, kx_pI, kx_pL, kx_pR, kx_pA, kx_pV, kx_s1, kx_s2, kx_sl, kx_pre, kx_c2, kx_pl, kx_cmp, kx_oF, kx_eqN, kx_nil, kx_c1, kx_ft, kx_aI, kx_aL, kx_aR, kx_ln, Nat.reduceAdd, Option.toList, List.cons_append, List.nil_append, cf1_2, cf9_12, cf1_7]
                    repeat (simp only [h64, hq, h9, ks_eq, ks_ss]; try dsimp only [kx_wp, kx_step, kx_lI, kx_lL, kx_lA, kx_gl, kx_pI, kx_pL, kx_pR, kx_pA, kx_pV, kx_s1, kx_s2, kx_sl, kx_pre, kx_c2, kx_pl, kx_cmp, kx_oF, kx_eqN, kx_nil, kx_c1, kx_ft, kx_aI, kx_aL, kx_aR, kx_ln, Nat.reduceAdd, Option.toList, List.cons_append, List.nil_append, cf1_2, cf9_12, cf1_7])
                    repeat' apply And.intro
                    all_goals try (first | with_reducible assumption | (with_reducible refine ck_nzI ?_; simp; done) | (with_reducible refine ck_nzL ?_; simp; done) | (with_reducible refine vp_in_nI ?_ ?_ <;> first | omega | decide) | (with_reducible refine Nat.le_of_ble_eq_true ?_; rfl) | omega | exact Or.inl trivial | exact Or.inr trivial | exact Or.inl rfl | exact Or.inr rfl)
                    refine hB bX10_mend_151 _ _ _ _ _ _ _ kX10_mend_151 ?_
                    dsimp only [bX10_mend_151, kx_wp, kx_step, kx_lI, kx_lL, kx_lA, kx_gl, kx_pI, kx_pL, kx_pR, kx_pA, kx_pV, kx_s1, kx_s2, kx_sl, kx_pre, kx_c2, kx_pl, kx_cmp, kx_oF, kx_eqN, kx_nil, kx_c1, kx_ft, kx_aI, kx_aL, kx_aR, kx_ln, Nat.reduceAdd, Option.toList, List.cons_append, List.nil_append, cf1_2, cf9_12, cf1_7]
                    repeat (simp only [h64, hq, h9, ks_eq, ks_ss]; try dsimp only [kx_wp, kx_step, kx_lI, kx_lL, kx_lA, kx_gl, kx_pI, kx_pL, kx_pR, kx_pA, kx_pV, kx_s1, kx_s2, kx_sl, kx_pre, kx_c2, kx_pl, kx_cmp, kx_oF, kx_eqN, kx_nil, kx_c1, kx_ft, kx_aI, kx_aL, kx_aR, kx_ln, Nat.reduceAdd, Option.toList, List.cons_append, List.nil_append, cf1_2, cf9_12, cf1_7])
                    all_goals (repeat' apply And.intro)
                    all_goals ((try clear hB hC); first | exact True.intro | first | exact absurd zc106 (by decide) | exact absurd rfl zc106 | exact absurd zc130 (by decide) | exact absurd rfl zc130 | exact absurd zc143 (by decide) | exact absurd rfl zc143 | exact absurd zc101 (by decide) | exact absurd rfl zc101 | exact absurd zc125 (by decide) | exact absurd rfl zc125 | (simp only [cx_md, zc7, ze7, zc12, ze12, ze30, ze52, ze58, zc77, ze77, ze101, ze125, ze143, ↓reduceIte, Nat.reduceEqDiff, OfNat.ofNat_ne_zero, OfNat.ofNat_ne_one, Nat.succ_ne_zero]; done) | (simp only [cx_md, zc7, ze7, zc12, ze12, ze30, ze52, ze58, zc77, ze77, ze101, ze125, ze143, ↓reduceIte]; done) | (simp only [cx_md, zc7, ze7, zc12, ze12, ze30, ze52, ze58, zc77, ze77, ze101, ze125, ze143, ↓reduceIte]; rfl) | (unfold cx_md; simp only [zc7, ze7, zc12, ze12, ze30, ze52, ze58, zc77, ze77, ze101, ze125, ze143, ↓reduceIte]; rfl))
                · intro zc125
                  first | exact absurd rfl zc125 | exact absurd zc125 (by decide) | exact absurd (by decide) zc125 | (exfalso; first | exact absurd zc7 (by decide) | exact absurd zc12 (by decide) | exact h12 (Decidable.not_not.mp zc30) | exact zc30 rfl | exact hm1 zc52 | exact hm2 (Decidable.not_not.mp zc58) | exact zc101 rfl | exact absurd zc101 (by decide) | exact zc125 rfl | exact absurd zc125 (by decide)) | (exfalso; simp_all; done)
              · intro zc101
                first | exact absurd rfl zc101 | exact absurd zc101 (by decide) | exact absurd (by decide) zc101 | (exfalso; first | exact absurd zc7 (by decide) | exact absurd zc12 (by decide) | exact h12 (Decidable.not_not.mp zc30) | exact zc30 rfl | exact hm1 zc52 | exact hm2 (Decidable.not_not.mp zc58) | exact zc101 rfl | exact absurd zc101 (by decide) | exact zc125 rfl | exact absurd zc125 (by decide)) | (exfalso; simp_all; done)
            · intro zc77
              with_reducible first | have ze77 := Int32.not_lt.mp zc77 | have ze77 := zc77
              refine hB bX10_mend_80 _ _ _ _ _ _ _ kX10_mend_80 ?_
              dsimp only [bX10_mend_80, kx_wp, kx_step, kx_lI, kx_lL, kx_lA, kx_gl, kx_pI, kx_pL, kx_pR, kx_pA, kx_pV, kx_s1, kx_s2, kx_sl, kx_pre, kx_c2, kx_pl, kx_cmp, kx_oF, kx_eqN, kx_nil, kx_c1, kx_ft, kx_aI, kx_aL, kx_aR, kx_ln, Nat.reduceAdd, Option.toList, List.cons_append, List.nil_append, cf1_2, cf9_12, cf1_7]
              repeat (simp only [h64, hq, h9, ks_eq, ks_ss]; try dsimp only [kx_wp, kx_step, kx_lI, kx_lL, kx_lA, kx_gl, kx_pI, kx_pL, kx_pR, kx_pA, kx_pV, kx_s1, kx_s2, kx_sl, kx_pre, kx_c2, kx_pl, kx_cmp, kx_oF, kx_eqN, kx_nil, kx_c1, kx_ft, kx_aI, kx_aL, kx_aR, kx_ln, Nat.reduceAdd, Option.toList, List.cons_append, List.nil_append, cf1_2, cf9_12, cf1_7])
              repeat' apply And.intro
              all_goals try (first | with_reducible assumption | (with_reducible refine ck_nzI ?_; simp; done) | (with_reducible refine ck_nzL ?_; simp; done) | (with_reducible refine vp_in_nI ?_ ?_ <;> first | omega | decide) | (with_reducible refine Nat.le_of_ble_eq_true ?_; rfl) | omega | exact Or.inl trivial | exact Or.inr trivial | exact Or.inl rfl | exact Or.inr rfl)
              · intro zc90
                with_reducible first | have ze90 := Int32.not_lt.mpr zc90 | have ze90 := zc90
                refine hB bX10_mend_97 _ _ _ _ _ _ _ kX10_mend_97 ?_
                dsimp only [bX10_mend_97, kx_wp, kx_step, kx_lI, kx_lL, kx_lA, kx_gl, kx_pI, kx_pL, kx_pR, kx_pA, kx_pV, kx_s1, kx_s2, kx_sl, kx_pre, kx_c2, kx_pl, kx_cmp, kx_oF, kx_eqN, kx_nil, kx_c1, kx_ft, kx_aI, kx_aL, kx_aR, kx_ln, Nat.reduceAdd, Option.toList, List.cons_append, List.nil_append, cf1_2, cf9_12, cf1_7]
                repeat (simp only [h64, hq, h9, ks_eq, ks_ss]; try dsimp only [kx_wp, kx_step, kx_lI, kx_lL, kx_lA, kx_gl, kx_pI, kx_pL, kx_pR, kx_pA, kx_pV, kx_s1, kx_s2, kx_sl, kx_pre, kx_c2, kx_pl, kx_cmp, kx_oF, kx_eqN, kx_nil, kx_c1, kx_ft, kx_aI, kx_aL, kx_aR, kx_ln, Nat.reduceAdd, Option.toList, List.cons_append, List.nil_append, cf1_2, cf9_12, cf1_7])
                repeat' apply And.intro
                all_goals try (first | with_reducible assumption | (with_reducible refine ck_nzI ?_; simp; done) | (with_reducible refine ck_nzL ?_; simp; done) | (with_reducible refine vp_in_nI ?_ ?_ <;> first | omega | decide) | (with_reducible refine Nat.le_of_ble_eq_true ?_; rfl) | omega | exact Or.inl trivial | exact Or.inr trivial | exact Or.inl rfl | exact Or.inr rfl)
                refine hB bX10_mend_98 _ _ _ _ _ _ _ kX10_mend_98 ?_
                dsimp only [bX10_mend_98, kx_wp, kx_step, kx_lI, kx_lL, kx_lA, kx_gl, kx_pI, kx_pL, kx_pR, kx_pA, kx_pV, kx_s1, kx_s2, kx_sl, kx_pre, kx_c2, kx_pl, kx_cmp, kx_oF, kx_eqN, kx_nil, kx_c1, kx_ft, kx_aI, kx_aL, kx_aR, kx_ln, Nat.reduceAdd, Option.toList, List.cons_append, List.nil_append, cf1_2, cf9_12, cf1_7]
                repeat (simp only [h64, hq, h9, ks_eq, ks_ss]; try dsimp only [kx_wp, kx_step, kx_lI, kx_lL, kx_lA, kx_gl, kx_pI, kx_pL, kx_pR, kx_pA, kx_pV, kx_s1, kx_s2, kx_sl, kx_pre, kx_c2, kx_pl, kx_cmp, kx_oF, kx_eqN, kx_nil, kx_c1, kx_ft, kx_aI, kx_aL, kx_aR, kx_ln, Nat.reduceAdd, Option.toList, List.cons_append, List.nil_append, cf1_2, cf9_12, cf1_7])
                repeat' apply And.intro
                all_goals try (first | with_reducible assumption | (with_reducible refine ck_nzI ?_; simp; done) | (with_reducible refine ck_nzL ?_; simp; done) | (with_reducible refine vp_in_nI ?_ ?_ <;> first | omega | decide) | (with_reducible refine Nat.le_of_ble_eq_true ?_; rfl) | omega | exact Or.inl trivial | exact Or.inr trivial | exact Or.inl rfl | exact Or.inr rfl)
                · intro zc101
                  have ze101 := zc101
                  refine hB bX10_mend_123 _ _ _ _ _ _ _ kX10_mend_123 ?_
                  dsimp only [bX10_mend_123, kx_wp, kx_step, kx_lI, kx_lL, kx_lA, kx_gl, kx_pI, kx_pL, kx_pR, kx_pA, kx_pV, kx_s1, kx_s2, kx_sl, kx_pre, kx_c2, kx_pl, kx_cmp, kx_oF, kx_eqN, kx_nil, kx_c1, kx_ft, kx_aI, kx_aL, kx_aR, kx_ln, Nat.reduceAdd, Option.toList, List.cons_append, List.nil_append, cf1_2, cf9_12, cf1_7]
                  repeat (simp only [h64, hq, h9, ks_eq, ks_ss]; try dsimp only [kx_wp, kx_step, kx_lI, kx_lL, kx_lA, kx_gl, kx_pI, kx_pL, kx_pR, kx_pA, kx_pV, kx_s1, kx_s2, kx_sl, kx_pre, kx_c2, kx_pl, kx_cmp, kx_oF, kx_eqN, kx_nil, kx_c1, kx_ft, kx_aI, kx_aL, kx_aR, kx_ln, Nat.reduceAdd, Option.toList, List.cons_append, List.nil_append, cf1_2, cf9_12, cf1_7])
                  repeat' apply And.intro
                  all_goals try (first | with_reducible assumption | (with_reducible refine ck_nzI ?_; simp; done) | (with_reducible refine ck_nzL ?_; simp; done) | (with_reducible refine vp_in_nI ?_ ?_ <;> first | omega | decide) | (with_reducible refine Nat.le_of_ble_eq_true ?_; rfl) | omega | exact Or.inl trivial | exact Or.inr trivial | exact Or.inl rfl | exact Or.inr rfl)
                  · intro zc125
                    have ze125 := zc125
                    refine hB bX10_mend_141 _ _ _ _ _ _ _ kX10_mend_141 ?_
                    dsimp only [bX10_mend_141, kx_wp, kx_step, kx_lI, kx_lL, kx_lA, kx_gl, kx_pI, kx_pL, kx_pR, kx_pA, kx_pV, kx_s1, kx_s2, kx_sl, kx_pre, kx_c2, kx_pl, kx_cmp, kx_oF, kx_eqN, kx_nil, kx_c1, kx_ft, kx_aI, kx_aL, kx_aR, kx_ln, Nat.reduceAdd, Option.toList, List.cons_append, List.nil_append, cf1_2, cf9_12, cf1_7]
                    repeat (simp only [h64, hq, h9, ks_eq, ks_ss]; try dsimp only [kx_wp, kx_step, kx_lI, kx_lL, kx_lA, kx_gl, kx_pI, kx_pL, kx_pR, kx_pA, kx_pV, kx_s1, kx_s2, kx_sl, kx_pre, kx_c2, kx_pl, kx_cmp, kx_oF, kx_eqN, kx_nil, kx_c1, kx_ft, kx_aI, kx_aL, kx_aR, kx_ln, Nat.reduceAdd, Option.toList, List.cons_append, List.nil_append, cf1_2, cf9_12, cf1_7])
                    repeat' apply And.intro
                    all_goals try (first | with_reducible assumption | (with_reducible refine ck_nzI ?_; simp; done) | (with_reducible refine ck_nzL ?_; simp; done) | (with_reducible refine vp_in_nI ?_ ?_ <;> first | omega | decide) | (with_reducible refine Nat.le_of_ble_eq_true ?_; rfl) | omega | exact Or.inl trivial | exact Or.inr trivial | exact Or.inl rfl | exact Or.inr rfl)
                    · intro zc143
                      have ze143 := zc143
                      refine hB bX10_mend_150 _ _ _ _ _ _ _ kX10_mend_150 ?_
                      dsimp only [bX10_mend_150, kx_wp, kx_step, kx_lI, kx_lL, kx_lA, kx_gl, kx_pI, kx_pL, kx_pR, kx_pA, kx_pV, kx_s1, kx_s2, kx_sl, kx_pre, kx_c2, kx_pl, kx_cmp, kx_oF, kx_eqN, kx_nil, kx_c1, kx_ft, kx_aI, kx_aL, kx_aR, kx_ln, Nat.reduceAdd, Option.toList, List.cons_append, List.nil_append, cf1_2, cf9_12, cf1_7]
                      repeat (simp only [h64, hq, h9, ks_eq, ks_ss]; try dsimp only [kx_wp, kx_step, kx_lI, kx_lL, kx_lA, kx_gl, kx_pI, kx_pL, kx_pR, kx_pA, kx_pV, kx_s1, kx_s2, kx_sl, kx_pre, kx_c2, kx_pl, kx_cmp, kx_oF, kx_eqN, kx_nil, kx_c1, kx_ft, kx_aI, kx_aL, kx_aR, kx_ln, Nat.reduceAdd, Option.toList, List.cons_append, List.nil_append, cf1_2, cf9_12, cf1_7])
                      repeat' apply And.intro
                      all_goals try (first | with_reducible assumption | (with_reducible refine ck_nzI ?_; simp; done) | (with_reducible refine ck_nzL ?_; simp; done) | (with_reducible refine vp_in_nI ?_ ?_ <;> first | omega | decide) | (with_reducible refine Nat.le_of_ble_eq_true ?_; rfl) | omega | exact Or.inl trivial | exact Or.inr trivial | exact Or.inl rfl | exact Or.inr rfl)
                      refine hB bX10_mend_151 _ _ _ _ _ _ _ kX10_mend_151 ?_
                      dsimp only [bX10_mend_151, kx_wp, kx_step, kx_lI, kx_lL, kx_lA, kx_gl, kx_pI, kx_pL, kx_pR, kx_pA, kx_pV, kx_s1, kx_s2, kx_sl, kx_pre, kx_c2, kx_pl, kx_cmp, kx_oF, kx_eqN, kx_nil, kx_c1, kx_ft, kx_aI, kx_aL, kx_aR, kx_ln, Nat.reduceAdd, Option.toList, List.cons_append, List.nil_append, cf1_2, cf9_12, cf1_7]
                      repeat (simp only [h64, hq, h9, ks_eq, ks_ss]; try dsimp only [kx_wp, kx_step, kx_lI, kx_lL, kx_lA, kx_gl, kx_pI, kx_pL, kx_pR, kx_pA, kx_pV, kx_s1, kx_s2, kx_sl, kx_pre, kx_c2, kx_pl, kx_cmp, kx_oF, kx_eqN, kx_nil, kx_c1, kx_ft, kx_aI, kx_aL, kx_aR, kx_ln, Nat.reduceAdd, Option.toList, List.cons_append, List.nil_append, cf1_2, cf9_12, cf1_7])
                      all_goals (repeat' apply And.intro)
                      all_goals ((try clear hB hC); first | exact True.intro | first | exact absurd zc106 (by decide) | exact absurd rfl zc106 | exact absurd zc130 (by decide) | exact absurd rfl zc130 | exact absurd zc143 (by decide) | exact absurd rfl zc143 | exact absurd zc101 (by decide) | exact absurd rfl zc101 | exact absurd zc125 (by decide) | exact absurd rfl zc125 | (simp only [cx_md, zc7, ze7, zc12, ze12, ze30, ze52, ze58, zc77, ze77, zc90, ze90, ze101, ze125, eq_true ze143, ↓reduceIte, Nat.reduceEqDiff, OfNat.ofNat_ne_zero, OfNat.ofNat_ne_one, Nat.succ_ne_zero]; done) | (simp only [cx_md, zc7, ze7, zc12, ze12, ze30, ze52, ze58, zc77, ze77, zc90, ze90, ze101, ze125, eq_true ze143, ↓reduceIte]; done) | (simp only [cx_md, zc7, ze7, zc12, ze12, ze30, ze52, ze58, zc77, ze77, zc90, ze90, ze101, ze125, eq_true ze143, ↓reduceIte]; rfl) | (unfold cx_md; simp only [zc7, ze7, zc12, ze12, ze30, ze52, ze58, zc77, ze77, zc90, ze90, ze101, ze125, eq_true ze143, ↓reduceIte]; rfl))
                    · intro zc143
                      have ze143 := zc143
                      refine hB bX10_mend_146 _ _ _ _ _ _ _ kX10_mend_146 ?_
                      dsimp only [bX10_mend_146, kx_wp, kx_step, kx_lI, kx_lL, kx_lA, kx_gl, kx_pI, kx_pL, kx_pR, kx_pA, kx_pV, kx_s1, kx_s2, kx_sl, kx_pre, kx_c2, kx_pl, kx_cmp, kx_oF, kx_eqN, kx_nil, kx_c1, kx_ft, kx_aI, kx_aL, kx_aR, kx_ln, Nat.reduceAdd, Option.toList, List.cons_append, List.nil_append, cf1_2, cf9_12, cf1_7]
                      repeat (simp only [h64, hq, h9, ks_eq, ks_ss]; try dsimp only [kx_wp, kx_step, kx_lI, kx_lL, kx_lA, kx_gl, kx_pI, kx_pL, kx_pR, kx_pA, kx_pV, kx_s1, kx_s2, kx_sl, kx_pre, kx_c2, kx_pl, kx_cmp, kx_oF, kx_eqN, kx_nil, kx_c1, kx_ft, kx_aI, kx_aL, kx_aR, kx_ln, Nat.reduceAdd, Option.toList, List.cons_append, List.nil_append, cf1_2, cf9_12, cf1_7])
                      repeat' apply And.intro
                      all_goals try (first | with_reducible assumption | (with_reducible refine ck_nzI ?_; simp; done) | (with_reducible refine ck_nzL ?_; simp; done) | (with_reducible refine vp_in_nI ?_ ?_ <;> first | omega | decide) | (with_reducible refine Nat.le_of_ble_eq_true ?_; rfl) | omega | exact Or.inl trivial | exact Or.inr trivial | exact Or.inl rfl | exact Or.inr rfl)
                      refine hB bX10_mend_151 _ _ _ _ _ _ _ kX10_mend_151 ?_
                      dsimp only [bX10_mend_151, kx_wp, kx_step, kx_lI, kx_lL, kx_lA, kx_gl, kx_pI, kx_pL, kx_pR, kx_pA, kx_pV, kx_s1, kx_s2, kx_sl, kx_pre, kx_c2, kx_pl, kx_cmp, kx_oF, kx_eqN, kx_nil, kx_c1, kx_ft, kx_aI, kx_aL, kx_aR, kx_ln, Nat.reduceAdd, Option.toList, List.cons_append, List.nil_append, cf1_2, cf9_12, cf1_7]
                      repeat (simp only [h64, hq, h9, ks_eq, ks_ss]; try dsimp only [kx_wp, kx_step, kx_lI, kx_lL, kx_lA, kx_gl, kx_pI, kx_pL, kx_pR, kx_pA, kx_pV, kx_s1, kx_s2, kx_sl, kx_pre, kx_c2, kx_pl, kx_cmp, kx_oF, kx_eqN, kx_nil, kx_c1, kx_ft, kx_aI, kx_aL, kx_aR, kx_ln, Nat.reduceAdd, Option.toList, List.cons_append, List.nil_append, cf1_2, cf9_12, cf1_7])
                      all_goals (repeat' apply And.intro)
                      all_goals ((try clear hB hC); first | exact True.intro | first | exact absurd zc106 (by decide) | exact absurd rfl zc106 | exact absurd zc130 (by decide) | exact absurd rfl zc130 | exact absurd zc143 (by decide) | exact absurd rfl zc143 | exact absurd zc101 (by decide) | exact absurd rfl zc101 | exact absurd zc125 (by decide) | exact absurd rfl zc125 | (simp only [cx_md, zc7, ze7, zc12, ze12, ze30, ze52, ze58, zc77, ze77, zc90, ze90, ze101, ze125, ze143, ↓reduceIte, Nat.reduceEqDiff, OfNat.ofNat_ne_zero, OfNat.ofNat_ne_one, Nat.succ_ne_zero]; done) | (simp only [cx_md, zc7, ze7, zc12, ze12, ze30, ze52, ze58, zc77, ze77, zc90, ze90, ze101, ze125, ze143, ↓reduceIte]; done) | (simp only [cx_md, zc7, ze7, zc12, ze12, ze30, ze52, ze58, zc77, ze77, zc90, ze90, ze101, ze125, ze143, ↓reduceIte]; rfl) | (unfold cx_md; simp only [zc7, ze7, zc12, ze12, ze30, ze52, ze58, zc77, ze77, zc90, ze90, ze101, ze125, ze143, ↓reduceIte]; rfl))
                  · intro zc125
                    first | exact absurd rfl zc125 | exact absurd zc125 (by decide) | exact absurd (by decide) zc125 | (exfalso; first | exact absurd zc7 (by decide) | exact absurd zc12 (by decide) | exact h12 (Decidable.not_not.mp zc30) | exact zc30 rfl | exact hm1 zc52 | exact hm2 (Decidable.not_not.mp zc58) | exact zc101 rfl | exact absurd zc101 (by decide) | exact zc125 rfl | exact absurd zc125 (by decide)) | (exfalso; simp_all; done)
                · intro zc101
                  first | exact absurd rfl zc101 | exact absurd zc101 (by decide) | exact absurd (by decide) zc101 | (exfalso; first | exact absurd zc7 (by decide) | exact absurd zc12 (by decide) | exact h12 (Decidable.not_not.mp zc30) | exact zc30 rfl | exact hm1 zc52 | exact hm2 (Decidable.not_not.mp zc58) | exact zc101 rfl | exact absurd zc101 (by decide) | exact zc125 rfl | exact absurd zc125 (by decide)) | (exfalso; simp_all; done)
              · intro zc90
                with_reducible first | have ze90 := Int32.not_le.mp zc90 | have ze90 := zc90
                refine hB bX10_mend_93 _ _ _ _ _ _ _ kX10_mend_93 ?_
                dsimp only [bX10_mend_93, kx_wp, kx_step, kx_lI, kx_lL, kx_lA, kx_gl, kx_pI, kx_pL, kx_pR, kx_pA, kx_pV, kx_s1, kx_s2, kx_sl, kx_pre, kx_c2, kx_pl, kx_cmp, kx_oF, kx_eqN, kx_nil, kx_c1, kx_ft, kx_aI, kx_aL, kx_aR, kx_ln, Nat.reduceAdd, Option.toList, List.cons_append, List.nil_append, cf1_2, cf9_12, cf1_7]
                repeat (simp only [h64, hq, h9, ks_eq, ks_ss]; try dsimp only [kx_wp, kx_step, kx_lI, kx_lL, kx_lA, kx_gl, kx_pI, kx_pL, kx_pR, kx_pA, kx_pV, kx_s1, kx_s2, kx_sl, kx_pre, kx_c2, kx_pl, kx_cmp, kx_oF, kx_eqN, kx_nil, kx_c1, kx_ft, kx_aI, kx_aL, kx_aR, kx_ln, Nat.reduceAdd, Option.toList, List.cons_append, List.nil_append, cf1_2, cf9_12, cf1_7])
                repeat' apply And.intro
                all_goals try (first | with_reducible assumption | (with_reducible refine ck_nzI ?_; simp; done) | (with_reducible refine ck_nzL ?_; simp; done) | (with_reducible refine vp_in_nI ?_ ?_ <;> first | omega | decide) | (with_reducible refine Nat.le_of_ble_eq_true ?_; rfl) | omega | exact Or.inl trivial | exact Or.inr trivial | exact Or.inl rfl | exact Or.inr rfl)
                refine hB bX10_mend_98 _ _ _ _ _ _ _ kX10_mend_98 ?_
                dsimp only [bX10_mend_98, kx_wp, kx_step, kx_lI, kx_lL, kx_lA, kx_gl, kx_pI, kx_pL, kx_pR, kx_pA, kx_pV, kx_s1, kx_s2, kx_sl, kx_pre, kx_c2, kx_pl, kx_cmp, kx_oF, kx_eqN, kx_nil, kx_c1, kx_ft, kx_aI, kx_aL, kx_aR, kx_ln, Nat.reduceAdd, Option.toList, List.cons_append, List.nil_append, cf1_2, cf9_12, cf1_7]
                repeat (simp only [h64, hq, h9, ks_eq, ks_ss]; try dsimp only [kx_wp, kx_step, kx_lI, kx_lL, kx_lA, kx_gl, kx_pI, kx_pL, kx_pR, kx_pA, kx_pV, kx_s1, kx_s2, kx_sl, kx_pre, kx_c2, kx_pl, kx_cmp, kx_oF, kx_eqN, kx_nil, kx_c1, kx_ft, kx_aI, kx_aL, kx_aR, kx_ln, Nat.reduceAdd, Option.toList, List.cons_append, List.nil_append, cf1_2, cf9_12, cf1_7])
                repeat' apply And.intro
                all_goals try (first | with_reducible assumption | (with_reducible refine ck_nzI ?_; simp; done) | (with_reducible refine ck_nzL ?_; simp; done) | (with_reducible refine vp_in_nI ?_ ?_ <;> first | omega | decide) | (with_reducible refine Nat.le_of_ble_eq_true ?_; rfl) | omega | exact Or.inl trivial | exact Or.inr trivial | exact Or.inl rfl | exact Or.inr rfl)
                · intro zc101
                  have ze101 := zc101
                  refine hB bX10_mend_123 _ _ _ _ _ _ _ kX10_mend_123 ?_
                  dsimp only [bX10_mend_123, kx_wp, kx_step, kx_lI, kx_lL, kx_lA, kx_gl, kx_pI, kx_pL, kx_pR, kx_pA, kx_pV, kx_s1, kx_s2, kx_sl, kx_pre, kx_c2, kx_pl, kx_cmp, kx_oF, kx_eqN, kx_nil, kx_c1, kx_ft, kx_aI, kx_aL, kx_aR, kx_ln, Nat.reduceAdd, Option.toList, List.cons_append, List.nil_append, cf1_2, cf9_12, cf1_7]
                  repeat (simp only [h64, hq, h9, ks_eq, ks_ss]; try dsimp only [kx_wp, kx_step, kx_lI, kx_lL, kx_lA, kx_gl, kx_pI, kx_pL, kx_pR, kx_pA, kx_pV, kx_s1, kx_s2, kx_sl, kx_pre, kx_c2, kx_pl, kx_cmp, kx_oF, kx_eqN, kx_nil, kx_c1, kx_ft, kx_aI, kx_aL, kx_aR, kx_ln, Nat.reduceAdd, Option.toList, List.cons_append, List.nil_append, cf1_2, cf9_12, cf1_7])
                  repeat' apply And.intro
                  all_goals try (first | with_reducible assumption | (with_reducible refine ck_nzI ?_; simp; done) | (with_reducible refine ck_nzL ?_; simp; done) | (with_reducible refine vp_in_nI ?_ ?_ <;> first | omega | decide) | (with_reducible refine Nat.le_of_ble_eq_true ?_; rfl) | omega | exact Or.inl trivial | exact Or.inr trivial | exact Or.inl rfl | exact Or.inr rfl)
                  · intro zc125
                    have ze125 := zc125
                    refine hB bX10_mend_141 _ _ _ _ _ _ _ kX10_mend_141 ?_
                    dsimp only [bX10_mend_141, kx_wp, kx_step, kx_lI, kx_lL, kx_lA, kx_gl, kx_pI, kx_pL, kx_pR, kx_pA, kx_pV, kx_s1, kx_s2, kx_sl, kx_pre, kx_c2, kx_pl, kx_cmp, kx_oF, kx_eqN, kx_nil, kx_c1, kx_ft, kx_aI, kx_aL, kx_aR, kx_ln, Nat.reduceAdd, Option.toList, List.cons_append, List.nil_append, cf1_2, cf9_12, cf1_7]
                    repeat (simp only [h64, hq, h9, ks_eq, ks_ss]; try dsimp only [kx_wp, kx_step, kx_lI, kx_lL, kx_lA, kx_gl, kx_pI, kx_pL, kx_pR, kx_pA, kx_pV, kx_s1, kx_s2, kx_sl, kx_pre, kx_c2, kx_pl, kx_cmp, kx_oF, kx_eqN, kx_nil, kx_c1, kx_ft, kx_aI, kx_aL, kx_aR, kx_ln, Nat.reduceAdd, Option.toList, List.cons_append, List.nil_append, cf1_2, cf9_12, cf1_7])
                    repeat' apply And.intro
                    all_goals try (first | with_reducible assumption | (with_reducible refine ck_nzI ?_; simp; done) | (with_reducible refine ck_nzL ?_; simp; done) | (with_reducible refine vp_in_nI ?_ ?_ <;> first | omega | decide) | (with_reducible refine Nat.le_of_ble_eq_true ?_; rfl) | omega | exact Or.inl trivial | exact Or.inr trivial | exact Or.inl rfl | exact Or.inr rfl)
                    · intro zc143
                      have ze143 := zc143
                      refine hB bX10_mend_150 _ _ _ _ _ _ _ kX10_mend_150 ?_
                      dsimp only [bX10_mend_150, kx_wp, kx_step, kx_lI, kx_lL, kx_lA, kx_gl, kx_pI, kx_pL, kx_pR, kx_pA, kx_pV, kx_s1, kx_s2, kx_sl, kx_pre, kx_c2, kx_pl, kx_cmp, kx_oF, kx_eqN, kx_nil, kx_c1, kx_ft, kx_aI, kx_aL, kx_aR, kx_ln, Nat.reduceAdd, Option.toList, List.cons_append, List.nil_append, cf1_2, cf9_12, cf1_7]
                      repeat (simp only [h64, hq, h9, ks_eq, ks_ss]; try dsimp only [kx_wp, kx_step, kx_lI, kx_lL, kx_lA, kx_gl, kx_pI, kx_pL, kx_pR, kx_pA, kx_pV, kx_s1, kx_s2, kx_sl, kx_pre, kx_c2, kx_pl, kx_cmp, kx_oF, kx_eqN, kx_nil, kx_c1, kx_ft, kx_aI, kx_aL, kx_aR, kx_ln, Nat.reduceAdd, Option.toList, List.cons_append, List.nil_append, cf1_2, cf9_12, cf1_7])
                      repeat' apply And.intro
                      all_goals try (first | with_reducible assumption | (with_reducible refine ck_nzI ?_; simp; done) | (with_reducible refine ck_nzL ?_; simp; done) | (with_reducible refine vp_in_nI ?_ ?_ <;> first | omega | decide) | (with_reducible refine Nat.le_of_ble_eq_true ?_; rfl) | omega | exact Or.inl trivial | exact Or.inr trivial | exact Or.inl rfl | exact Or.inr rfl)
                      refine hB bX10_mend_151 _ _ _ _ _ _ _ kX10_mend_151 ?_
                      dsimp only [bX10_mend_151, kx_wp, kx_step, kx_lI, kx_lL, kx_lA, kx_gl, kx_pI, kx_pL, kx_pR, kx_pA, kx_pV, kx_s1, kx_s2, kx_sl, kx_pre, kx_c2, kx_pl, kx_cmp, kx_oF, kx_eqN, kx_nil, kx_c1, kx_ft, kx_aI, kx_aL, kx_aR, kx_ln, Nat.reduceAdd, Option.toList, List.cons_append, List.nil_append, cf1_2, cf9_12, cf1_7]
                      repeat (simp only [h64, hq, h9, ks_eq, ks_ss]; try dsimp only [kx_wp, kx_step, kx_lI, kx_lL, kx_lA, kx_gl, kx_pI, kx_pL, kx_pR, kx_pA, kx_pV, kx_s1, kx_s2, kx_sl, kx_pre, kx_c2, kx_pl, kx_cmp, kx_oF, kx_eqN, kx_nil, kx_c1, kx_ft, kx_aI, kx_aL, kx_aR, kx_ln, Nat.reduceAdd, Option.toList, List.cons_append, List.nil_append, cf1_2, cf9_12, cf1_7])
                      all_goals (repeat' apply And.intro)
                      all_goals ((try clear hB hC); first | exact True.intro | first | exact absurd zc106 (by decide) | exact absurd rfl zc106 | exact absurd zc130 (by decide) | exact absurd rfl zc130 | exact absurd zc143 (by decide) | exact absurd rfl zc143 | exact absurd zc101 (by decide) | exact absurd rfl zc101 | exact absurd zc125 (by decide) | exact absurd rfl zc125 | (simp only [cx_md, zc7, ze7, zc12, ze12, ze30, ze52, ze58, zc77, ze77, zc90, ze90, ze101, ze125, eq_true ze143, ↓reduceIte, Nat.reduceEqDiff, OfNat.ofNat_ne_zero, OfNat.ofNat_ne_one, Nat.succ_ne_zero]; done) | (simp only [cx_md, zc7, ze7, zc12, ze12, ze30, ze52, ze58, zc77, ze77, zc90, ze90, ze101, ze125, eq_true ze143, ↓reduceIte]; done) | (simp only [cx_md, zc7, ze7, zc12, ze12, ze30, ze52, ze58, zc77, ze77, zc90, ze90, ze101, ze125, eq_true ze143, ↓reduceIte]; rfl) | (unfold cx_md; simp only [zc7, ze7, zc12, ze12, ze30, ze52, ze58, zc77, ze77, zc90, ze90, ze101, ze125, eq_true ze143, ↓reduceIte]; rfl))
                    · intro zc143
                      have ze143 := zc143
                      refine hB bX10_mend_146 _ _ _ _ _ _ _ kX10_mend_146 ?_
                      dsimp only [bX10_mend_146, kx_wp, kx_step, kx_lI, kx_lL, kx_lA, kx_gl, kx_pI, kx_pL, kx_pR, kx_pA, kx_pV, kx_s1, kx_s2, kx_sl, kx_pre, kx_c2, kx_pl, kx_cmp, kx_oF, kx_eqN, kx_nil, kx_c1, kx_ft, kx_aI, kx_aL, kx_aR, kx_ln, Nat.reduceAdd, Option.toList, List.cons_append, List.nil_append, cf1_2, cf9_12, cf1_7]
                      repeat (simp only [h64, hq, h9, ks_eq, ks_ss]; try dsimp only [kx_wp, kx_step, kx_lI, kx_lL, kx_lA, kx_gl, kx_pI, kx_pL, kx_pR, kx_pA, kx_pV, kx_s1, kx_s2, kx_sl, kx_pre, kx_c2, kx_pl, kx_cmp, kx_oF, kx_eqN, kx_nil, kx_c1, kx_ft, kx_aI, kx_aL, kx_aR, kx_ln, Nat.reduceAdd, Option.toList, List.cons_append, List.nil_append, cf1_2, cf9_12, cf1_7])
                      repeat' apply And.intro
                      all_goals try (first | with_reducible assumption | (with_reducible refine ck_nzI ?_; simp; done) | (with_reducible refine ck_nzL ?_; simp; done) | (with_reducible refine vp_in_nI ?_ ?_ <;> first | omega | decide) | (with_reducible refine Nat.le_of_ble_eq_true ?_; rfl) | omega | exact Or.inl trivial | exact Or.inr trivial | exact Or.inl rfl | exact Or.inr rfl)
                      refine hB bX10_mend_151 _ _ _ _ _ _ _ kX10_mend_151 ?_
                      dsimp only [bX10_mend_151, kx_wp, kx_step, kx_lI, kx_lL, kx_lA, kx_gl, kx_pI, kx_pL, kx_pR, kx_pA, kx_pV, kx_s1, kx_s2, kx_sl, kx_pre, kx_c2, kx_pl, kx_cmp, kx_oF, kx_eqN, kx_nil, kx_c1, kx_ft, kx_aI, kx_aL, kx_aR, kx_ln, Nat.reduceAdd, Option.toList, List.cons_append, List.nil_append, cf1_2, cf9_12, cf1_7]
                      repeat (simp only [h64, hq, h9, ks_eq, ks_ss]; try dsimp only [kx_wp, kx_step, kx_lI, kx_lL, kx_lA, kx_gl, kx_pI, kx_pL, kx_pR, kx_pA, kx_pV, kx_s1, kx_s2, kx_sl, kx_pre, kx_c2, kx_pl, kx_cmp, kx_oF, kx_eqN, kx_nil, kx_c1, kx_ft, kx_aI, kx_aL, kx_aR, kx_ln, Nat.reduceAdd, Option.toList, List.cons_append, List.nil_append, cf1_2, cf9_12, cf1_7])
                      all_goals (repeat' apply And.intro)
                      all_goals ((try clear hB hC); first | exact True.intro | first | exact absurd zc106 (by decide) | exact absurd rfl zc106 | exact absurd zc130 (by decide) | exact absurd rfl zc130 | exact absurd zc143 (by decide) | exact absurd rfl zc143 | exact absurd zc101 (by decide) | exact absurd rfl zc101 | exact absurd zc125 (by decide) | exact absurd rfl zc125 | (simp only [cx_md, zc7, ze7, zc12, ze12, ze30, ze52, ze58, zc77, ze77, zc90, ze90, ze101, ze125, ze143, ↓reduceIte, Nat.reduceEqDiff, OfNat.ofNat_ne_zero, OfNat.ofNat_ne_one, Nat.succ_ne_zero]; done) | (simp only [cx_md, zc7, ze7, zc12, ze12, ze30, ze52, ze58, zc77, ze77, zc90, ze90, ze101, ze125, ze143, ↓reduceIte]; done) | (simp only [cx_md, zc7, ze7, zc12, ze12, ze30, ze52, ze58, zc77, ze77, zc90, ze90, ze101, ze125, ze143, ↓reduceIte]; rfl) | (unfold cx_md; simp only [zc7, ze7, zc12, ze12, ze30, ze52, ze58, zc77, ze77, zc90, ze90, ze101, ze125, ze143, ↓reduceIte]; rfl))
                  · intro zc125
                    first | exact absurd rfl zc125 | exact absurd zc125 (by decide) | exact absurd (by decide) zc125 | (exfalso; first | exact absurd zc7 (by decide) | exact absurd zc12 (by decide) | exact h12 (Decidable.not_not.mp zc30) | exact zc30 rfl | exact hm1 zc52 | exact hm2 (Decidable.not_not.mp zc58) | exact zc101 rfl | exact absurd zc101 (by decide) | exact zc125 rfl | exact absurd zc125 (by decide)) | (exfalso; simp_all; done)
                · intro zc101
                  first | exact absurd rfl zc101 | exact absurd zc101 (by decide) | exact absurd (by decide) zc101 | (exfalso; first | exact absurd zc7 (by decide) | exact absurd zc12 (by decide) | exact h12 (Decidable.not_not.mp zc30) | exact zc30 rfl | exact hm1 zc52 | exact hm2 (Decidable.not_not.mp zc58) | exact zc101 rfl | exact absurd zc101 (by decide) | exact zc125 rfl | exact absurd zc125 (by decide)) | (exfalso; simp_all; done)
          · intro zc58
            first | exact absurd rfl zc58 | exact absurd zc58 (by decide) | exact absurd (by decide) zc58 | (exfalso; first | exact absurd zc7 (by decide) | exact absurd zc12 (by decide) | exact h12 (Decidable.not_not.mp zc30) | exact zc30 rfl | exact hm1 zc52 | exact hm2 (Decidable.not_not.mp zc58) | exact zc101 rfl | exact absurd zc101 (by decide) | exact zc125 rfl | exact absurd zc125 (by decide)) | (exfalso; simp_all; done)
      · intro zc30
        first | exact absurd rfl zc30 | exact absurd zc30 (by decide) | exact absurd (by decide) zc30 | (exfalso; first | exact absurd zc7 (by decide) | exact absurd zc12 (by decide) | exact h12 (Decidable.not_not.mp zc30) | exact zc30 rfl | exact hm1 zc52 | exact hm2 (Decidable.not_not.mp zc58) | exact zc101 rfl | exact absurd zc101 (by decide) | exact zc125 rfl | exact absurd zc125 (by decide)) | (exfalso; simp_all; done)

set_option maxRecDepth 100000 in
set_option maxHeartbeats 4000000 in
theorem ct_X10_mend_b (l : Launch) (G : kx_G) (hst : l.stackTraces = false) {P : kx_P} {sz : Nat} {sv : Value} {K : Nat → Int32} (h64 : P 64 = kO 10 (kf (cr10 sv) K)) {cl : Nat} {cn : Nat → Nat} (h69 : P 69 = kR 8 (fun i => if i < cl then some (cn i) else none)) (h7 : K 7 = nI cl) (hcl : cl ≤ 8) {c : Nat} (hc : c < cl) {v : Int32} (hv : ¬ (0 ≤ v ∧ v ≤ 2))  : kx_X l G sX10_mend 7 [.ref 64, .int (nI c), .int (v)] P sz "java/lang/IllegalArgumentException" := by
  refine kx_mkx hst kx_tab kxLok_X10 [some (.ref 64), some (.int (nI c)), some (.int (v)), none, none, none, none, none] ⟨by decide, rfl, by decide⟩ rfl rfl (fun g hB hC hX hT => ?_)
  refine hB bX10_mend_0 _ _ _ _ _ _ _ kX10_mend_0 ?_
  dsimp only [bX10_mend_0, kx_wp, kx_step, kx_lI, kx_lL, kx_lA, kx_gl, kx_pI, kx_pL, kx_pR, kx_pA, kx_pV, kx_s1, kx_s2, kx_sl, kx_pre, kx_c2, kx_pl, kx_cmp, kx_oF, kx_eqN, kx_nil, kx_c1, kx_ft, kx_aI, kx_aL, kx_aR, kx_ln, Nat.reduceAdd, Option.toList, List.cons_append, List.nil_append, cf1_2, cf9_12, cf1_7]
  repeat (simp only [h64, ks_eq, ks_ss]; try dsimp only [kx_wp, kx_step, kx_lI, kx_lL, kx_lA, kx_gl, kx_pI, kx_pL, kx_pR, kx_pA, kx_pV, kx_s1, kx_s2, kx_sl, kx_pre, kx_c2, kx_pl, kx_cmp, kx_oF, kx_eqN, kx_nil, kx_c1, kx_ft, kx_aI, kx_aL, kx_aR, kx_ln, Nat.reduceAdd, Option.toList, List.cons_append, List.nil_append, cf1_2, cf9_12, cf1_7])
  repeat' apply And.intro
  all_goals try (first | with_reducible assumption | (with_reducible refine ck_nzI ?_; simp; done) | (with_reducible refine ck_nzL ?_; simp; done) | (with_reducible refine vp_in_nI ?_ ?_ <;> first | omega | decide) | (with_reducible refine Nat.le_of_ble_eq_true ?_; rfl) | omega | exact Or.inl trivial | exact Or.inr trivial | exact Or.inl rfl | exact Or.inr rfl)
  refine hC.1 138 _ _ _ _ _ _ _ 10 _ _ _ _ _ _ _ _ _ _ _ _ lX10_138 (ct_X10_theClock l G h64 h69 h7 hcl hc) ⟨by decide, rfl⟩ (h64) rfl rfl (Nat.le_of_ble_eq_true rfl) (by first | decide | omega) (by decide) (by omega) (by omega) dX10_mend_2 ?_
  refine hB bX10_mend_5 _ _ _ _ _ _ _ kX10_mend_5 ?_
  dsimp only [bX10_mend_5, kx_wp, kx_step, kx_lI, kx_lL, kx_lA, kx_gl, kx_pI, kx_pL, kx_pR, kx_pA, kx_pV, kx_s1, kx_s2, kx_sl, kx_pre, kx_c2, kx_pl, kx_cmp, kx_oF, kx_eqN, kx_nil, kx_c1, kx_ft, kx_aI, kx_aL, kx_aR, kx_ln, Nat.reduceAdd, Option.toList, List.cons_append, List.nil_append, cf1_2, cf9_12, cf1_7]
  repeat (simp only [h64, ks_eq, ks_ss]; try dsimp only [kx_wp, kx_step, kx_lI, kx_lL, kx_lA, kx_gl, kx_pI, kx_pL, kx_pR, kx_pA, kx_pV, kx_s1, kx_s2, kx_sl, kx_pre, kx_c2, kx_pl, kx_cmp, kx_oF, kx_eqN, kx_nil, kx_c1, kx_ft, kx_aI, kx_aL, kx_aR, kx_ln, Nat.reduceAdd, Option.toList, List.cons_append, List.nil_append, cf1_2, cf9_12, cf1_7])
  repeat' apply And.intro
  all_goals try (first | with_reducible assumption | (with_reducible refine ck_nzI ?_; simp; done) | (with_reducible refine ck_nzL ?_; simp; done) | (with_reducible refine vp_in_nI ?_ ?_ <;> first | omega | decide) | (with_reducible refine Nat.le_of_ble_eq_true ?_; rfl) | omega | exact Or.inl trivial | exact Or.inr trivial | exact Or.inl rfl | exact Or.inr rfl)
  · intro zc7
    with_reducible first | have ze7 := Int32.not_le.mpr zc7 | have ze7 := zc7
    refine hB bX10_mend_19 _ _ _ _ _ _ _ kX10_mend_19 ?_
    dsimp only [bX10_mend_19, kx_wp, kx_step, kx_lI, kx_lL, kx_lA, kx_gl, kx_pI, kx_pL, kx_pR, kx_pA, kx_pV, kx_s1, kx_s2, kx_sl, kx_pre, kx_c2, kx_pl, kx_cmp, kx_oF, kx_eqN, kx_nil, kx_c1, kx_ft, kx_aI, kx_aL, kx_aR, kx_ln, Nat.reduceAdd, Option.toList, List.cons_append, List.nil_append, cf1_2, cf9_12, cf1_7]
    repeat (simp only [h64, ks_eq, ks_ss]; try dsimp only [kx_wp, kx_step, kx_lI, kx_lL, kx_lA, kx_gl, kx_pI, kx_pL, kx_pR, kx_pA, kx_pV, kx_s1, kx_s2, kx_sl, kx_pre, kx_c2, kx_pl, kx_cmp, kx_oF, kx_eqN, kx_nil, kx_c1, kx_ft, kx_aI, kx_aL, kx_aR, kx_ln, Nat.reduceAdd, Option.toList, List.cons_append, List.nil_append, cf1_2, cf9_12, cf1_7])
    repeat' apply And.intro
    all_goals try (first | with_reducible assumption | (with_reducible refine ck_nzI ?_; simp; done) | (with_reducible refine ck_nzL ?_; simp; done) | (with_reducible refine vp_in_nI ?_ ?_ <;> first | omega | decide) | (with_reducible refine Nat.le_of_ble_eq_true ?_; rfl) | omega | exact Or.inl trivial | exact Or.inr trivial | exact Or.inl rfl | exact Or.inr rfl)
    exact hX.2 95 _ _ _ _ _ _ _ _ lX10_95 (ct_X10_need_x l G hst) rfl rfl (Nat.le_of_ble_eq_true rfl) (by first | decide | omega) (by decide) dX10_mend_20
  · intro zc7
    with_reducible first | have ze7 := Int32.not_lt.mp zc7 | have ze7 := zc7
    refine hB bX10_mend_10 _ _ _ _ _ _ _ kX10_mend_10 ?_
    dsimp only [bX10_mend_10, kx_wp, kx_step, kx_lI, kx_lL, kx_lA, kx_gl, kx_pI, kx_pL, kx_pR, kx_pA, kx_pV, kx_s1, kx_s2, kx_sl, kx_pre, kx_c2, kx_pl, kx_cmp, kx_oF, kx_eqN, kx_nil, kx_c1, kx_ft, kx_aI, kx_aL, kx_aR, kx_ln, Nat.reduceAdd, Option.toList, List.cons_append, List.nil_append, cf1_2, cf9_12, cf1_7]
    repeat (simp only [h64, ks_eq, ks_ss]; try dsimp only [kx_wp, kx_step, kx_lI, kx_lL, kx_lA, kx_gl, kx_pI, kx_pL, kx_pR, kx_pA, kx_pV, kx_s1, kx_s2, kx_sl, kx_pre, kx_c2, kx_pl, kx_cmp, kx_oF, kx_eqN, kx_nil, kx_c1, kx_ft, kx_aI, kx_aL, kx_aR, kx_ln, Nat.reduceAdd, Option.toList, List.cons_append, List.nil_append, cf1_2, cf9_12, cf1_7])
    repeat' apply And.intro
    all_goals try (first | with_reducible assumption | (with_reducible refine ck_nzI ?_; simp; done) | (with_reducible refine ck_nzL ?_; simp; done) | (with_reducible refine vp_in_nI ?_ ?_ <;> first | omega | decide) | (with_reducible refine Nat.le_of_ble_eq_true ?_; rfl) | omega | exact Or.inl trivial | exact Or.inr trivial | exact Or.inl rfl | exact Or.inr rfl)
    · intro zc12
      with_reducible first | have ze12 := Int32.not_le.mpr zc12 | have ze12 := zc12
      refine hB bX10_mend_19 _ _ _ _ _ _ _ kX10_mend_19 ?_
      dsimp only [bX10_mend_19, kx_wp, kx_step, kx_lI, kx_lL, kx_lA, kx_gl, kx_pI, kx_pL, kx_pR, kx_pA, kx_pV, kx_s1, kx_s2, kx_sl, kx_pre, kx_c2, kx_pl, kx_cmp, kx_oF, kx_eqN, kx_nil, kx_c1, kx_ft, kx_aI, kx_aL, kx_aR, kx_ln, Nat.reduceAdd, Option.toList, List.cons_append, List.nil_append, cf1_2, cf9_12, cf1_7]
      repeat (simp only [h64, ks_eq, ks_ss]; try dsimp only [kx_wp, kx_step, kx_lI, kx_lL, kx_lA, kx_gl, kx_pI, kx_pL, kx_pR, kx_pA, kx_pV, kx_s1, kx_s2, kx_sl, kx_pre, kx_c2, kx_pl, kx_cmp, kx_oF, kx_eqN, kx_nil, kx_c1, kx_ft, kx_aI, kx_aL, kx_aR, kx_ln, Nat.reduceAdd, Option.toList, List.cons_append, List.nil_append, cf1_2, cf9_12, cf1_7])
      repeat' apply And.intro
      all_goals try (first | with_reducible assumption | (with_reducible refine ck_nzI ?_; simp; done) | (with_reducible refine ck_nzL ?_; simp; done) | (with_reducible refine vp_in_nI ?_ ?_ <;> first | omega | decide) | (with_reducible refine Nat.le_of_ble_eq_true ?_; rfl) | omega | exact Or.inl trivial | exact Or.inr trivial | exact Or.inl rfl | exact Or.inr rfl)
      exact hX.2 95 _ _ _ _ _ _ _ _ lX10_95 (ct_X10_need_x l G hst) rfl rfl (Nat.le_of_ble_eq_true rfl) (by first | decide | omega) (by decide) dX10_mend_20
    · intro zc12
      with_reducible first | have ze12 := Int32.not_lt.mp zc12 | have ze12 := zc12
      exact absurd ⟨ze7, ze12⟩ hv

set_option maxRecDepth 100000 in
set_option maxHeartbeats 4000000 in
theorem ct_X10_mend_f (l : Launch) (G : kx_G) (hst : l.stackTraces = false) {P : kx_P} {sz : Nat} {sv : Value} {K : Nat → Int32} (h64 : P 64 = kO 10 (kf (cr10 sv) K)) {v : Int32} {x : Int32} (hx : x < 0 ∨ K 7 ≤ x)  : kx_X l G sX10_mend 7 [.ref 64, .int (x), .int (v)] P sz "java/util/NoSuchElementException" := by
  refine kx_mkx hst kx_tab kxLok_X10 [some (.ref 64), some (.int (x)), some (.int (v)), none, none, none, none, none] ⟨by decide, rfl, by decide⟩ rfl rfl (fun g hB hC hX hT => ?_)
  refine hB bX10_mend_0 _ _ _ _ _ _ _ kX10_mend_0 ?_
  dsimp only [bX10_mend_0, kx_wp, kx_step, kx_lI, kx_lL, kx_lA, kx_gl, kx_pI, kx_pL, kx_pR, kx_pA, kx_pV, kx_s1, kx_s2, kx_sl, kx_pre, kx_c2, kx_pl, kx_cmp, kx_oF, kx_eqN, kx_nil, kx_c1, kx_ft, kx_aI, kx_aL, kx_aR, kx_ln, Nat.reduceAdd, Option.toList, List.cons_append, List.nil_append, cf1_2, cf9_12, cf1_7]
  repeat (simp only [ks_eq, ks_ss]; try dsimp only [kx_wp, kx_step, kx_lI, kx_lL, kx_lA, kx_gl, kx_pI, kx_pL, kx_pR, kx_pA, kx_pV, kx_s1, kx_s2, kx_sl, kx_pre, kx_c2, kx_pl, kx_cmp, kx_oF, kx_eqN, kx_nil, kx_c1, kx_ft, kx_aI, kx_aL, kx_aR, kx_ln, Nat.reduceAdd, Option.toList, List.cons_append, List.nil_append, cf1_2, cf9_12, cf1_7])
  repeat' apply And.intro
  all_goals try (first | with_reducible assumption | (with_reducible refine ck_nzI ?_; simp; done) | (with_reducible refine ck_nzL ?_; simp; done) | (with_reducible refine vp_in_nI ?_ ?_ <;> first | omega | decide) | (with_reducible refine Nat.le_of_ble_eq_true ?_; rfl) | omega | exact Or.inl trivial | exact Or.inr trivial | exact Or.inl rfl | exact Or.inr rfl)
  exact hX.1 138 _ _ _ _ _ 10 _ _ _ _ _ lX10_138 (ct_X10_theClock_x l G hst h64 hx) ⟨by decide, rfl⟩ (h64) rfl rfl (Nat.le_of_ble_eq_true rfl) (by first | decide | omega) (by decide) dX10_mend_2

def bX10_regulated_0 : List kx_O := [(.aload_n 0, 0, 0, 0, .null), (.iload_n 1, 1, 0, 0, .null)]
theorem kX10_regulated_0 : kx_oks kxL_X10 false cX10_regulated 0 bX10_regulated_0 = true := by decide +kernel
def bX10_regulated_5 : List kx_O := [(.astore_n 3, 3, 0, 0, .null), (.aload_n 0, 0, 0, 0, .null), (.getfield 84, 10, 14, 0, .null), (.iload_n 1, 1, 0, 0, .null), (.iload_n 2, 2, 0, 0, .null)]
theorem kX10_regulated_5 : kx_oks kxL_X10 false cX10_regulated 5 bX10_regulated_5 = true := by decide +kernel
def bX10_regulated_15 : List kx_O := [(.aload_n 0, 0, 0, 0, .null), (.getfield 84, 10, 14, 0, .null)]
theorem kX10_regulated_15 : kx_oks kxL_X10 false cX10_regulated 15 bX10_regulated_15 = true := by decide +kernel
def bX10_regulated_22 : List kx_O := [(.lstore 4, 4, 0, 0, .null), (.aload_n 0, 0, 0, 0, .null), (.getfield 84, 10, 14, 0, .null), (.getfield 306, 5, 5, 0, .null), (.iconst 2, 0, 0, 0, .int 2), (.if_icmp .ge 9, 41, 0, 0, .null)]
theorem kX10_regulated_22 : kx_oks kxL_X10 false cX10_regulated 22 bX10_regulated_22 = true := by decide +kernel
def bX10_regulated_35 : List kx_O := [(.ldc_w 309, 0, 0, 0, .int (-2000000000)), (.goto 9, 47, 0, 0, .null)]
theorem kX10_regulated_35 : kx_oks kxL_X10 false cX10_regulated 35 bX10_regulated_35 = true := by decide +kernel
def bX10_regulated_41 : List kx_O := [(.lload 4, 4, 0, 0, .null), (.aload_n 3, 3, 0, 0, .null)]
theorem kX10_regulated_41 : kx_oks kxL_X10 false cX10_regulated 41 bX10_regulated_41 = true := by decide +kernel
def bX10_regulated_47 : List kx_O := [(.ireturn, 0, 0, 0, .null)]
theorem kX10_regulated_47 : kx_oks kxL_X10 false cX10_regulated 47 bX10_regulated_47 = true := by decide +kernel
theorem dX10_regulated_2 : decode cX10_regulated 2 = .ok (.invokevirtual 138, 3) := by decide +kernel
theorem dX10_regulated_12 : decode cX10_regulated 12 = .ok (.invokevirtual 295, 3) := by decide +kernel
theorem dX10_regulated_19 : decode cX10_regulated 19 = .ok (.invokevirtual 302, 3) := by decide +kernel
theorem dX10_regulated_44 : decode cX10_regulated 44 = .ok (.invokestatic 310, 3) := by decide +kernel
set_option maxRecDepth 100000 in
set_option maxHeartbeats 4000000 in
theorem ct_X10_regulated_t (l : Launch) (G : kx_G) {P : kx_P} {sz : Nat} {sv : Value} {K : Nat → Int32} (h64 : P 64 = kO 10 (kf (cr10 sv) K)) {cl : Nat} {cn : Nat → Nat} (h69 : P 69 = kR 8 (fun i => if i < cl then some (cn i) else none)) (h7 : K 7 = nI cl) (hcl : cl ≤ 8) {c : Nat} (hc : c < cl) {Fr rc rm re rt : Nat → Int32} (hR : P 84 = kO 5 (kf cr5 Fr)) (h85 : P 85 = kI 0 100 rc) (h86 : P 86 = kI 0 100 rm) (h87 : P 87 = kI 0 100 re) (h88 : P 88 = kI 0 100 rt) {n : Nat} (h4 : Fr 4 = nI n) (hn : n ≤ 100) {t : Int32} {w : Nat} {V C : Nat → Int32} {d : Int64} {h : Value} (hq : P (cn c) = kO 1 (kf (cr1 (.ref w) d h) C)) (h9 : P w = kO 9 (kf (cr9 w) V)) (hne : ¬ cn c = 84 ∧ ¬ w = 84)  : kx_M l G sX10_regulated 4 0 0 [.ref 64, .int (nI c), .int (t)] P sz (some (.int (if (cx_rc Fr rc rm re rt (nI c) t n) 5 < 2 then -2000000000 else (cx_bp (cx_rr (cx_rc Fr rc rm re rt (nI c) t n)) (V 5) (C 9) 41).1))) (kx_set P 84 (kO 5 (kf cr5 (cx_rc Fr rc rm re rt (nI c) t n)))) sz := by
  refine kx_mk kx_tab kxLok_X10 (ini := false) [some (.ref 64), some (.int (nI c)), some (.int (t)), none, none, none] ⟨by decide, rfl, by decide, by decide⟩ (⟨_, rfl⟩) rfl rfl (fun g hB hC => ?_)
  refine hB bX10_regulated_0 _ _ _ _ _ _ _ kX10_regulated_0 ?_
  dsimp only [bX10_regulated_0, kx_wp, kx_step, kx_lI, kx_lL, kx_lA, kx_gl, kx_pI, kx_pL, kx_pR, kx_pA, kx_pV, kx_s1, kx_s2, kx_sl, kx_pre, kx_c2, kx_pl, kx_cmp, kx_oF, kx_eqN, kx_nil, kx_c1, kx_ft, kx_aI, kx_aL, kx_aR, kx_ln, Nat.reduceAdd, Option.toList, List.cons_append, List.nil_append, cf10_14, cf5_5]
  repeat (simp only [h64, ks_ne (show ¬ (64 : Nat) = 84 by decide), ks_eq, ks_ss]; try dsimp only [kx_wp, kx_step, kx_lI, kx_lL, kx_lA, kx_gl, kx_pI, kx_pL, kx_pR, kx_pA, kx_pV, kx_s1, kx_s2, kx_sl, kx_pre, kx_c2, kx_pl, kx_cmp, kx_oF, kx_eqN, kx_nil, kx_c1, kx_ft, kx_aI, kx_aL, kx_aR, kx_ln, Nat.reduceAdd, Option.toList, List.cons_append, List.nil_append, cf10_14, cf5_5])
  repeat' apply And.intro
  all_goals try (first | with_reducible assumption | (with_reducible refine ck_nzI ?_; simp; done) | (with_reducible refine ck_nzL ?_; simp; done) | (with_reducible refine vp_in_nI ?_ ?_ <;> first | omega | decide) | (with_reducible refine Nat.le_of_ble_eq_true ?_; rfl) | omega | exact Or.inl trivial | exact Or.inr trivial | exact Or.inl rfl | exact Or.inr rfl)
  refine hC.1 138 _ _ _ _ _ _ _ 10 _ _ _ _ _ _ _ _ _ _ _ _ lX10_138 (ct_X10_theClock l G h64 h69 h7 hcl hc) ⟨by decide, rfl⟩ (h64) rfl rfl (Nat.le_of_ble_eq_true rfl) (by first | decide | omega) (by decide) (by omega) (by omega) dX10_regulated_2 ?_
  refine hB bX10_regulated_5 _ _ _ _ _ _ _ kX10_regulated_5 ?_
  dsimp only [bX10_regulated_5, kx_wp, kx_step, kx_lI, kx_lL, kx_lA, kx_gl, kx_pI, kx_pL, kx_pR, kx_pA, kx_pV, kx_s1, kx_s2, kx_sl, kx_pre, kx_c2, kx_pl, kx_cmp, kx_oF, kx_eqN, kx_nil, kx_c1, kx_ft, kx_aI, kx_aL, kx_aR, kx_ln, Nat.reduceAdd, Option.toList, List.cons_append, List.nil_append, cf10_14, cf5_5]
  repeat (simp only [h64, ks_ne (show ¬ (64 : Nat) = 84 by decide), ks_eq, ks_ss]; try dsimp only [kx_wp, kx_step, kx_lI, kx_lL, kx_lA, kx_gl, kx_pI, kx_pL, kx_pR, kx_pA, kx_pV, kx_s1, kx_s2, kx_sl, kx_pre, kx_c2, kx_pl, kx_cmp, kx_oF, kx_eqN, kx_nil, kx_c1, kx_ft, kx_aI, kx_aL, kx_aR, kx_ln, Nat.reduceAdd, Option.toList, List.cons_append, List.nil_append, cf10_14, cf5_5])
  repeat' apply And.intro
  all_goals try (first | with_reducible assumption | (with_reducible refine ck_nzI ?_; simp; done) | (with_reducible refine ck_nzL ?_; simp; done) | (with_reducible refine vp_in_nI ?_ ?_ <;> first | omega | decide) | (with_reducible refine Nat.le_of_ble_eq_true ?_; rfl) | omega | exact Or.inl trivial | exact Or.inr trivial | exact Or.inl rfl | exact Or.inr rfl)
  refine hC.1 295 _ _ _ _ _ _ _ 5 _ _ _ _ _ _ _ _ _ _ _ _ lX10_295 (ct_X5_recall l G hR h85 h86 h87 h88 h4 hn) ⟨by decide, rfl⟩ (hR) rfl rfl (Nat.le_of_ble_eq_true rfl) (by first | decide | omega) (by decide) (by omega) (by omega) dX10_regulated_12 ?_
  refine hB bX10_regulated_15 _ _ _ _ _ _ _ kX10_regulated_15 ?_
  dsimp only [bX10_regulated_15, kx_wp, kx_step, kx_lI, kx_lL, kx_lA, kx_gl, kx_pI, kx_pL, kx_pR, kx_pA, kx_pV, kx_s1, kx_s2, kx_sl, kx_pre, kx_c2, kx_pl, kx_cmp, kx_oF, kx_eqN, kx_nil, kx_c1, kx_ft, kx_aI, kx_aL, kx_aR, kx_ln, Nat.reduceAdd, Option.toList, List.cons_append, List.nil_append, cf10_14, cf5_5]
  repeat (simp only [h64, ks_ne (show ¬ (64 : Nat) = 84 by decide), ks_eq, ks_ss]; try dsimp only [kx_wp, kx_step, kx_lI, kx_lL, kx_lA, kx_gl, kx_pI, kx_pL, kx_pR, kx_pA, kx_pV, kx_s1, kx_s2, kx_sl, kx_pre, kx_c2, kx_pl, kx_cmp, kx_oF, kx_eqN, kx_nil, kx_c1, kx_ft, kx_aI, kx_aL, kx_aR, kx_ln, Nat.reduceAdd, Option.toList, List.cons_append, List.nil_append, cf10_14, cf5_5])
  repeat' apply And.intro
  all_goals try (first | with_reducible assumption | (with_reducible refine ck_nzI ?_; simp; done) | (with_reducible refine ck_nzL ?_; simp; done) | (with_reducible refine vp_in_nI ?_ ?_ <;> first | omega | decide) | (with_reducible refine Nat.le_of_ble_eq_true ?_; rfl) | omega | exact Or.inl trivial | exact Or.inr trivial | exact Or.inl rfl | exact Or.inr rfl)
  refine hC.1 302 _ _ _ _ _ _ _ 5 _ _ _ _ _ _ _ _ _ _ _ _ lX10_302 (ct_X5_rateReckoned l G (F := (cx_rc Fr rc rm re rt (nI c) t n)) (ks_eq _ _ _)) ⟨by decide, rfl⟩ (by first | exact h64 | exact ks_eq _ _ _) rfl rfl (Nat.le_of_ble_eq_true rfl) (by first | decide | omega) (by decide) (by omega) (by omega) dX10_regulated_19 ?_
  refine hB bX10_regulated_22 _ _ _ _ _ _ _ kX10_regulated_22 ?_
  dsimp only [bX10_regulated_22, kx_wp, kx_step, kx_lI, kx_lL, kx_lA, kx_gl, kx_pI, kx_pL, kx_pR, kx_pA, kx_pV, kx_s1, kx_s2, kx_sl, kx_pre, kx_c2, kx_pl, kx_cmp, kx_oF, kx_eqN, kx_nil, kx_c1, kx_ft, kx_aI, kx_aL, kx_aR, kx_ln, Nat.reduceAdd, Option.toList, List.cons_append, List.nil_append, cf10_14, cf5_5]
  repeat (simp only [h64, ks_ne (show ¬ (64 : Nat) = 84 by decide), ks_eq, ks_ss]; try dsimp only [kx_wp, kx_step, kx_lI, kx_lL, kx_lA, kx_gl, kx_pI, kx_pL, kx_pR, kx_pA, kx_pV, kx_s1, kx_s2, kx_sl, kx_pre, kx_c2, kx_pl, kx_cmp, kx_oF, kx_eqN, kx_nil, kx_c1, kx_ft, kx_aI, kx_aL, kx_aR, kx_ln, Nat.reduceAdd, Option.toList, List.cons_append, List.nil_append, cf10_14, cf5_5])
  repeat' apply And.intro
  all_goals try (first | with_reducible assumption | (with_reducible refine ck_nzI ?_; simp; done) | (with_reducible refine ck_nzL ?_; simp; done) | (with_reducible refine vp_in_nI ?_ ?_ <;> first | omega | decide) | (with_reducible refine Nat.le_of_ble_eq_true ?_; rfl) | omega | exact Or.inl trivial | exact Or.inr trivial | exact Or.inl rfl | exact Or.inr rfl)
  · intro zc32
    with_reducible first | have ze32 := Int32.not_lt.mpr zc32 | have ze32 := zc32
    refine hB bX10_regulated_41 _ _ _ _ _ _ _ kX10_regulated_41 ?_
    dsimp only [bX10_regulated_41, kx_wp, kx_step, kx_lI, kx_lL, kx_lA, kx_gl, kx_pI, kx_pL, kx_pR, kx_pA, kx_pV, kx_s1, kx_s2, kx_sl, kx_pre, kx_c2, kx_pl, kx_cmp, kx_oF, kx_eqN, kx_nil, kx_c1, kx_ft, kx_aI, kx_aL, kx_aR, kx_ln, Nat.reduceAdd, Option.toList, List.cons_append, List.nil_append, cf10_14, cf5_5]
    repeat (simp only [h64, ks_ne (show ¬ (64 : Nat) = 84 by decide), ks_eq, ks_ss]; try dsimp only [kx_wp, kx_step, kx_lI, kx_lL, kx_lA, kx_gl, kx_pI, kx_pL, kx_pR, kx_pA, kx_pV, kx_s1, kx_s2, kx_sl, kx_pre, kx_c2, kx_pl, kx_cmp, kx_oF, kx_eqN, kx_nil, kx_c1, kx_ft, kx_aI, kx_aL, kx_aR, kx_ln, Nat.reduceAdd, Option.toList, List.cons_append, List.nil_append, cf10_14, cf5_5])
    repeat' apply And.intro
    all_goals try (first | with_reducible assumption | (with_reducible refine ck_nzI ?_; simp; done) | (with_reducible refine ck_nzL ?_; simp; done) | (with_reducible refine vp_in_nI ?_ ?_ <;> first | omega | decide) | (with_reducible refine Nat.le_of_ble_eq_true ?_; rfl) | omega | exact Or.inl trivial | exact Or.inr trivial | exact Or.inl rfl | exact Or.inr rfl)
    refine hC.2.1 310 _ _ _ _ _ _ _ _ _ _ _ _ _ _ _ _ _ lX10_310 (ct_X10_bestPennies l G (c := cn c) (w := w) (V := V) (C := C) (d := d) (h := h) ((ks_ne hne.1).trans hq) ((ks_ne hne.2).trans h9)) rfl rfl (Nat.le_of_ble_eq_true rfl) (by first | decide | omega) (by decide) (by omega) (by omega) dX10_regulated_44 ?_
    refine hB bX10_regulated_47 _ _ _ _ _ _ _ kX10_regulated_47 ?_
    dsimp only [bX10_regulated_47, kx_wp, kx_step, kx_lI, kx_lL, kx_lA, kx_gl, kx_pI, kx_pL, kx_pR, kx_pA, kx_pV, kx_s1, kx_s2, kx_sl, kx_pre, kx_c2, kx_pl, kx_cmp, kx_oF, kx_eqN, kx_nil, kx_c1, kx_ft, kx_aI, kx_aL, kx_aR, kx_ln, Nat.reduceAdd, Option.toList, List.cons_append, List.nil_append, cf10_14, cf5_5]
    repeat (simp only [h64, ks_ne (show ¬ (64 : Nat) = 84 by decide), ks_eq, ks_ss]; try dsimp only [kx_wp, kx_step, kx_lI, kx_lL, kx_lA, kx_gl, kx_pI, kx_pL, kx_pR, kx_pA, kx_pV, kx_s1, kx_s2, kx_sl, kx_pre, kx_c2, kx_pl, kx_cmp, kx_oF, kx_eqN, kx_nil, kx_c1, kx_ft, kx_aI, kx_aL, kx_aR, kx_ln, Nat.reduceAdd, Option.toList, List.cons_append, List.nil_append, cf10_14, cf5_5])
    all_goals (repeat' apply And.intro)
    all_goals ((try clear hB hC); first | exact True.intro | with_reducible rfl | with_reducible assumption | (with_reducible refine vp_in_nI ?_ ?_ <;> first | omega | decide) | exact Nat.le_of_ble_eq_true rfl | (with_reducible refine ck_nzI ?_; simp; done) | (with_reducible refine ck_nzL ?_; simp; done) | (simp only [pk_us, pk_uLs, zc32, ze32, ↓reduceIte, not_true_eq_false, not_false_eq_true]; done) | (simp only [zc32, ze32, ↓reduceIte, not_true_eq_false, not_false_eq_true]; with_reducible rfl) | omega | skip)
  · intro zc32
    with_reducible first | have ze32 := Int32.not_le.mp zc32 | have ze32 := zc32
    refine hB bX10_regulated_35 _ _ _ _ _ _ _ kX10_regulated_35 ?_
    dsimp only [bX10_regulated_35, kx_wp, kx_step, kx_lI, kx_lL, kx_lA, kx_gl, kx_pI, kx_pL, kx_pR, kx_pA, kx_pV, kx_s1, kx_s2, kx_sl, kx_pre, kx_c2, kx_pl, kx_cmp, kx_oF, kx_eqN, kx_nil, kx_c1, kx_ft, kx_aI, kx_aL, kx_aR, kx_ln, Nat.reduceAdd, Option.toList, List.cons_append, List.nil_append, cf10_14, cf5_5]
    repeat (simp only [h64, ks_ne (show ¬ (64 : Nat) = 84 by decide), ks_eq, ks_ss]; try dsimp only [kx_wp, kx_step, kx_lI, kx_lL, kx_lA, kx_gl, kx_pI, kx_pL, kx_pR, kx_pA, kx_pV, kx_s1, kx_s2, kx_sl, kx_pre, kx_c2, kx_pl, kx_cmp, kx_oF, kx_eqN, kx_nil, kx_c1, kx_ft, kx_aI, kx_aL, kx_aR, kx_ln, Nat.reduceAdd, Option.toList, List.cons_append, List.nil_append, cf10_14, cf5_5])
    repeat' apply And.intro
    all_goals try (first | with_reducible assumption | (with_reducible refine ck_nzI ?_; simp; done) | (with_reducible refine ck_nzL ?_; simp; done) | (with_reducible refine vp_in_nI ?_ ?_ <;> first | omega | decide) | (with_reducible refine Nat.le_of_ble_eq_true ?_; rfl) | omega | exact Or.inl trivial | exact Or.inr trivial | exact Or.inl rfl | exact Or.inr rfl)
    refine hB bX10_regulated_47 _ _ _ _ _ _ _ kX10_regulated_47 ?_
    dsimp only [bX10_regulated_47, kx_wp, kx_step, kx_lI, kx_lL, kx_lA, kx_gl, kx_pI, kx_pL, kx_pR, kx_pA, kx_pV, kx_s1, kx_s2, kx_sl, kx_pre, kx_c2, kx_pl, kx_cmp, kx_oF, kx_eqN, kx_nil, kx_c1, kx_ft, kx_aI, kx_aL, kx_aR, kx_ln, Nat.reduceAdd, Option.toList, List.cons_append, List.nil_append, cf10_14, cf5_5]
    repeat (simp only [h64, ks_ne (show ¬ (64 : Nat) = 84 by decide), ks_eq, ks_ss]; try dsimp only [kx_wp, kx_step, kx_lI, kx_lL, kx_lA, kx_gl, kx_pI, kx_pL, kx_pR, kx_pA, kx_pV, kx_s1, kx_s2, kx_sl, kx_pre, kx_c2, kx_pl, kx_cmp, kx_oF, kx_eqN, kx_nil, kx_c1, kx_ft, kx_aI, kx_aL, kx_aR, kx_ln, Nat.reduceAdd, Option.toList, List.cons_append, List.nil_append, cf10_14, cf5_5])
    all_goals (repeat' apply And.intro)
    all_goals ((try clear hB hC); first | exact True.intro | with_reducible rfl | with_reducible assumption | (with_reducible refine vp_in_nI ?_ ?_ <;> first | omega | decide) | exact Nat.le_of_ble_eq_true rfl | (with_reducible refine ck_nzI ?_; simp; done) | (with_reducible refine ck_nzL ?_; simp; done) | (simp only [pk_us, pk_uLs, zc32, ze32, ↓reduceIte, not_true_eq_false, not_false_eq_true]; done) | (simp only [zc32, ze32, ↓reduceIte, not_true_eq_false, not_false_eq_true]; with_reducible rfl) | omega | skip)

set_option maxRecDepth 100000 in
set_option maxHeartbeats 4000000 in
theorem ct_X10_regulated_f (l : Launch) (G : kx_G) (hst : l.stackTraces = false) {P : kx_P} {sz : Nat} {sv : Value} {K : Nat → Int32} (h64 : P 64 = kO 10 (kf (cr10 sv) K)) {t : Int32} {x : Int32} (hx : x < 0 ∨ K 7 ≤ x)  : kx_X l G sX10_regulated 7 [.ref 64, .int (x), .int (t)] P sz "java/util/NoSuchElementException" := by
  refine kx_mkx hst kx_tab kxLok_X10 [some (.ref 64), some (.int (x)), some (.int (t)), none, none, none] ⟨by decide, rfl, by decide⟩ rfl rfl (fun g hB hC hX hT => ?_)
  refine hB bX10_regulated_0 _ _ _ _ _ _ _ kX10_regulated_0 ?_
  dsimp only [bX10_regulated_0, kx_wp, kx_step, kx_lI, kx_lL, kx_lA, kx_gl, kx_pI, kx_pL, kx_pR, kx_pA, kx_pV, kx_s1, kx_s2, kx_sl, kx_pre, kx_c2, kx_pl, kx_cmp, kx_oF, kx_eqN, kx_nil, kx_c1, kx_ft, kx_aI, kx_aL, kx_aR, kx_ln, Nat.reduceAdd, Option.toList, List.cons_append, List.nil_append, cf10_14, cf5_5]
  repeat (simp only [ks_eq, ks_ss]; try dsimp only [kx_wp, kx_step, kx_lI, kx_lL, kx_lA, kx_gl, kx_pI, kx_pL, kx_pR, kx_pA, kx_pV, kx_s1, kx_s2, kx_sl, kx_pre, kx_c2, kx_pl, kx_cmp, kx_oF, kx_eqN, kx_nil, kx_c1, kx_ft, kx_aI, kx_aL, kx_aR, kx_ln, Nat.reduceAdd, Option.toList, List.cons_append, List.nil_append, cf10_14, cf5_5])
  repeat' apply And.intro
  all_goals try (first | with_reducible assumption | (with_reducible refine ck_nzI ?_; simp; done) | (with_reducible refine ck_nzL ?_; simp; done) | (with_reducible refine vp_in_nI ?_ ?_ <;> first | omega | decide) | (with_reducible refine Nat.le_of_ble_eq_true ?_; rfl) | omega | exact Or.inl trivial | exact Or.inr trivial | exact Or.inl rfl | exact Or.inr rfl)
  exact hX.1 138 _ _ _ _ _ 10 _ _ _ _ _ lX10_138 (ct_X10_theClock_x l G hst h64 hx) ⟨by decide, rfl⟩ (h64) rfl rfl (Nat.le_of_ble_eq_true rfl) (by first | decide | omega) (by decide) dX10_regulated_2


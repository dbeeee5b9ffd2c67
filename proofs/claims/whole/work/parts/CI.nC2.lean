def bX10_foretold_0 : List kx_O := [(.aload_n 0, 0, 0, 0, .null), (.iload_n 1, 1, 0, 0, .null)]
theorem kX10_foretold_0 : kx_oks kxL_X10 false cX10_foretold 0 bX10_foretold_0 = true := by decide +kernel
def bX10_foretold_5 : List kx_O := [(.astore 4, 4, 0, 0, .null), (.iload_n 2, 2, 0, 0, .null), (.iconst 1, 0, 0, 0, .int 1), (.if_icmp .lt 24, 33, 0, 0, .null)]
theorem kX10_foretold_5 : kx_oks kxL_X10 false cX10_foretold 5 bX10_foretold_5 = true := by decide +kernel
def bX10_foretold_12 : List kx_O := [(.iload_n 2, 2, 0, 0, .null), (.sipush 3000, 0, 0, 0, .int 3000), (.if_icmp .gt 17, 33, 0, 0, .null)]
theorem kX10_foretold_12 : kx_oks kxL_X10 false cX10_foretold 12 bX10_foretold_12 = true := by decide +kernel
def bX10_foretold_19 : List kx_O := [(.iload_n 3, 3, 0, 0, .null), (.ifCond .lt 13, 33, 0, 0, .null)]
theorem kX10_foretold_19 : kx_oks kxL_X10 false cX10_foretold 19 bX10_foretold_19 = true := by decide +kernel
def bX10_foretold_23 : List kx_O := [(.iload_n 3, 3, 0, 0, .null), (.bipush 6, 0, 0, 0, .int 6), (.if_icmp .gt 7, 33, 0, 0, .null)]
theorem kX10_foretold_23 : kx_oks kxL_X10 false cX10_foretold 23 bX10_foretold_23 = true := by decide +kernel
def bX10_foretold_29 : List kx_O := [(.iconst 1, 0, 0, 0, .int 1), (.goto 4, 34, 0, 0, .null)]
theorem kX10_foretold_29 : kx_oks kxL_X10 false cX10_foretold 29 bX10_foretold_29 = true := by decide +kernel
def bX10_foretold_33 : List kx_O := [(.iconst 0, 0, 0, 0, .int 0)]
theorem kX10_foretold_33 : kx_oks kxL_X10 false cX10_foretold 33 bX10_foretold_33 = true := by decide +kernel
def bX10_foretold_37 : List kx_O := [(.aload_n 0, 0, 0, 0, .null), (.getfield 12, 10, 0, 0, .null), (.getfield 129, 0, 0, 0, .null), (.iload_n 2, 2, 0, 0, .null), (.iadd, 0, 0, 0, .null), (.istore 5, 5, 0, 0, .null), (.iload 5, 5, 0, 0, .null)]
theorem kX10_foretold_37 : kx_oks kxL_X10 false cX10_foretold 37 bX10_foretold_37 = true := by decide +kernel
def bX10_foretold_53 : List kx_O := [(.aload_n 0, 0, 0, 0, .null), (.getfield 50, 10, 8, 0, .null), (.aload 4, 4, 0, 0, .null)]
theorem kX10_foretold_53 : kx_oks kxL_X10 false cX10_foretold 53 bX10_foretold_53 = true := by decide +kernel
def bX10_foretold_62 : List kx_O := [(.iconst 0, 0, 0, 0, .int 0), (.istore 6, 6, 0, 0, .null), (.iconst 0, 0, 0, 0, .int 0), (.istore 7, 7, 0, 0, .null), (.aload_n 0, 0, 0, 0, .null), (.getfield 12, 10, 0, 0, .null), (.getfield 129, 0, 0, 0, .null), (.istore 8, 8, 0, 0, .null)]
theorem kX10_foretold_62 : kx_oks kxL_X10 false cX10_foretold 62 bX10_foretold_62 = true := by decide +kernel
def bX10_foretold_77 : List kx_O := [(.iload 8, 8, 0, 0, .null), (.iload 5, 5, 0, 0, .null), (.if_icmp .ge 53, 134, 0, 0, .null)]
theorem kX10_foretold_77 : kx_oks kxL_X10 false cX10_foretold 77 bX10_foretold_77 = true := by decide +kernel
def bX10_foretold_84 : List kx_O := [(.aload_n 0, 0, 0, 0, .null), (.getfield 50, 10, 8, 0, .null), (.aload_n 0, 0, 0, 0, .null), (.getfield 12, 10, 0, 0, .null), (.iload 8, 8, 0, 0, .null)]
theorem kX10_foretold_84 : kx_oks kxL_X10 false cX10_foretold 84 bX10_foretold_84 = true := by decide +kernel
def bX10_foretold_97 : List kx_O := [(.aload_n 0, 0, 0, 0, .null), (.getfield 50, 10, 8, 0, .null)]
theorem kX10_foretold_97 : kx_oks kxL_X10 false cX10_foretold 97 bX10_foretold_97 = true := by decide +kernel
def bX10_foretold_104 : List kx_O := [(.istore 9, 9, 0, 0, .null), (.iload 6, 6, 0, 0, .null), (.iload 9, 9, 0, 0, .null), (.ifCond .le 7, 117, 0, 0, .null)]
theorem kX10_foretold_104 : kx_oks kxL_X10 false cX10_foretold 104 bX10_foretold_104 = true := by decide +kernel
def bX10_foretold_113 : List kx_O := [(.iconst 1, 0, 0, 0, .int 1), (.goto 4, 118, 0, 0, .null)]
theorem kX10_foretold_113 : kx_oks kxL_X10 false cX10_foretold 113 bX10_foretold_113 = true := by decide +kernel
def bX10_foretold_117 : List kx_O := [(.iconst 0, 0, 0, 0, .int 0)]
theorem kX10_foretold_117 : kx_oks kxL_X10 false cX10_foretold 117 bX10_foretold_117 = true := by decide +kernel
def bX10_foretold_118 : List kx_O := [(.iadd, 0, 0, 0, .null), (.istore 6, 6, 0, 0, .null), (.iload 7, 7, 0, 0, .null), (.iload 9, 9, 0, 0, .null), (.iadd, 0, 0, 0, .null), (.istore 7, 7, 0, 0, .null), (.iinc 8 1, 8, 0, 0, .int 1), (.goto (-54), 77, 0, 0, .null)]
theorem kX10_foretold_118 : kx_oks kxL_X10 false cX10_foretold 118 bX10_foretold_118 = true := by decide +kernel
def bX10_foretold_134 : List kx_O := [(.iload_n 3, 3, 0, 0, .null), (.tableswitch 82 0 5 #[37, 47, 55, 63, 71, 79], 217, 37, 0, .null)]
theorem kX10_foretold_134 : kx_oks kxL_X10 false cX10_foretold 134 bX10_foretold_134 = true := by decide +kernel
def bX10_foretold_172 : List kx_O := [(.aload_n 0, 0, 0, 0, .null), (.getfield 50, 10, 8, 0, .null), (.iload 5, 5, 0, 0, .null)]
theorem kX10_foretold_172 : kx_oks kxL_X10 false cX10_foretold 172 bX10_foretold_172 = true := by decide +kernel
def bX10_foretold_181 : List kx_O := [(.ireturn, 0, 0, 0, .null)]
theorem kX10_foretold_181 : kx_oks kxL_X10 false cX10_foretold 181 bX10_foretold_181 = true := by decide +kernel
def bX10_foretold_182 : List kx_O := [(.aload_n 0, 0, 0, 0, .null), (.getfield 50, 10, 8, 0, .null), (.getfield 153, 1, 6, 0, .null), (.ireturn, 0, 0, 0, .null)]
theorem kX10_foretold_182 : kx_oks kxL_X10 false cX10_foretold 182 bX10_foretold_182 = true := by decide +kernel
def bX10_foretold_190 : List kx_O := [(.aload_n 0, 0, 0, 0, .null), (.getfield 50, 10, 8, 0, .null), (.getfield 156, 1, 7, 0, .null), (.ireturn, 0, 0, 0, .null)]
theorem kX10_foretold_190 : kx_oks kxL_X10 false cX10_foretold 190 bX10_foretold_190 = true := by decide +kernel
def bX10_foretold_198 : List kx_O := [(.aload_n 0, 0, 0, 0, .null), (.getfield 50, 10, 8, 0, .null)]
theorem kX10_foretold_198 : kx_oks kxL_X10 false cX10_foretold 198 bX10_foretold_198 = true := by decide +kernel
def bX10_foretold_205 : List kx_O := [(.ireturn, 0, 0, 0, .null)]
theorem kX10_foretold_205 : kx_oks kxL_X10 false cX10_foretold 205 bX10_foretold_205 = true := by decide +kernel
def bX10_foretold_206 : List kx_O := [(.aload_n 0, 0, 0, 0, .null), (.getfield 50, 10, 8, 0, .null), (.getfield 162, 1, 4, 0, .null), (.ireturn, 0, 0, 0, .null)]
theorem kX10_foretold_206 : kx_oks kxL_X10 false cX10_foretold 206 bX10_foretold_206 = true := by decide +kernel
def bX10_foretold_214 : List kx_O := [(.iload 6, 6, 0, 0, .null), (.ireturn, 0, 0, 0, .null)]
theorem kX10_foretold_214 : kx_oks kxL_X10 false cX10_foretold 214 bX10_foretold_214 = true := by decide +kernel
def bX10_foretold_217 : List kx_O := [(.iload 7, 7, 0, 0, .null), (.ireturn, 0, 0, 0, .null)]
theorem kX10_foretold_217 : kx_oks kxL_X10 false cX10_foretold 217 bX10_foretold_217 = true := by decide +kernel
theorem dX10_foretold_2 : decode cX10_foretold 2 = .ok (.invokevirtual 138, 3) := by decide +kernel
theorem dX10_foretold_34 : decode cX10_foretold 34 = .ok (.invokestatic 95, 3) := by decide +kernel
theorem dX10_foretold_50 : decode cX10_foretold 50 = .ok (.invokestatic 132, 3) := by decide +kernel
theorem dX10_foretold_59 : decode cX10_foretold 59 = .ok (.invokevirtual 326, 3) := by decide +kernel
theorem dX10_foretold_94 : decode cX10_foretold 94 = .ok (.invokevirtual 330, 3) := by decide +kernel
theorem dX10_foretold_101 : decode cX10_foretold 101 = .ok (.invokevirtual 334, 3) := by decide +kernel
theorem dX10_foretold_178 : decode cX10_foretold 178 = .ok (.invokevirtual 146, 3) := by decide +kernel
theorem dX10_foretold_202 : decode cX10_foretold 202 = .ok (.invokevirtual 159, 3) := by decide +kernel
set_option maxRecDepth 100000 in
set_option maxHeartbeats 4000000 in
theorem ct_X10_foretold_0 (l : Launch) (G : kx_G) {P : kx_P} {sz : Nat} {M : Nat → Int32} {A : Nat → Nat → Int32} {L : Nat → Nat → Int64} {cl mi sd se : Nat} {bl : Nat → Nat} (hst : cR_st P M A cl se bl) (hdy : cR_dy P A L cl se sz bl (fun _ => mi)) (hm : cR_m M A L cl mi sd) {c k : Nat} (hc : c < cl) (hk1 : 1 ≤ k) (hk2 : k ≤ 3000) (hmk : mi + k ≤ 100000)  : kx_Mn l G sX10_foretold 9 0 0 [.ref 64, .int (nI c), .int (nI k), .int (0)] P sz (fun r P2 s2 => r = some (.int (ck_seenV (ck_mns (ck_fS M A L cl c) cl k) c 0)) ∧ s2 = sz ∧ cR_af P P2 (M, A, L) cl mi se sz bl) := by
  have hcl : cl ≤ 8 := hm.2.2.1
  have haf := fun S1 C1 d gh => cR_af_g hst hdy hm hc S1 C1 d gh
  obtain ⟨⟨K, h64, -, -, hK7, -, -⟩, ⟨Al, h65, al0, al1, al3⟩, p66, -, -, h69, ⟨gv, gd, gh, Cg, h70⟩, -, -, -, -, -, -, -, -, -, -, -, -, -, -, p1, -⟩ := id hst
  rw [hm.2.1] at hK7
  rw [hm.2.2.2.1] at al0
  obtain ⟨V, T, Q, Fo, St, S0, C, Kp, c1, c2, c3, c4, c5, c6⟩ := hdy.2.1 c hc
  have b1 := hdy.1.w hcl hc
  have b2 := hdy.1.c hcl hc
  have b3 := hdy.1.wc hcl hc hc
  have H : cx_R P 70 (bl c) V T Q Fo St Al (A 94) := ⟨b1.2.1, by decide, by omega, by decide, by decide, c1.1, c1.2.1, c1.2.2.1, c1.2.2.2.1, c1.2.2.2.2.1, h65, p66, p1⟩
  obtain ⟨hF0, h94⟩ := cF_0 (P := P) (C1 := upd (upd (upd (upd (upd (upd (upd Cg 4 (C 4)) 5 (C 5)) 6 (C 6)) 7 (C 7)) 8 (C 8)) 9 (C 9)) 10 (C 10)) hm hc c4 c5 al1 al3 (Or.inr ⟨Cg, rfl⟩)
  have hms : ∀ n, ck_mns (ck_fS M A L cl c) cl (n + 1) = ck_mn (ck_mns (ck_fS M A L cl c) cl n) cl := fun _ => rfl
  have hm0 : ck_mns (ck_fS M A L cl c) cl 0 = ck_fS M A L cl c := rfl
  have e51 : (ck_fS M A L cl c).1 51 = 0 := rfl
  have e52 : (ck_fS M A L cl c).1 52 = 0 := rfl
  have hk64 : ∀ S d C, cW P 70 (bl c) S d gh C 64 = kO 10 (kf (cr10 (cR_sv (bl 16))) K) := fun S d C => (cW_o (by decide) (by omega)).trans h64
  have hb9 := ct_X1_become l G (sz := sz) (b := 70) (c := bl (8 + c)) h70 c2 (by omega) (by decide)
  obtain ⟨P5, hP5⟩ : ∃ P5, P5 = cW P 70 (bl c) S0 (L 116 c) gh (upd (upd (upd (upd (upd (upd (upd Cg 4 (C 4)) 5 (C 5)) 6 (C 6)) 7 (C 7)) 8 (C 8)) 9 (C 9)) 10 (C 10)) := ⟨_, rfl⟩
  have hw5 : kx_set P 70 (kO 1 (kf (cr1 (.ref (bl c)) (L 116 c) gh) (upd (upd (upd (upd (upd (upd (upd Cg 4 (C 4)) 5 (C 5)) 6 (C 6)) 7 (C 7)) 8 (C 8)) 9 (C 9)) 10 (C 10)))) = P5 := by
    rw [hP5]; unfold cW; rw [ks_id (P := P) c1.2.2.2.2.2]
  rw [hw5] at hb9
  have h65' : P5 65 = kO 0 (kf cr0 Al) := by rw [hP5, cW_o (by decide) (by omega)]; exact h65
  have h64' : P5 64 = kO 10 (kf (cr10 (cR_sv (bl 16))) K) := by rw [hP5]; exact hk64 _ _ _
  generalize ck_fS M A L cl c = FF at hF0 h94 hms hm0 e51 e52
  refine kx_mkn kx_tab kxLok_X10 (ini := false) [some (.ref 64), some (.int (nI c)), some (.int (nI k)), some (.int (0)), none, none, none, none, none, none] ⟨by decide, rfl, by decide, by decide⟩ (fun _ _ _ h => ⟨_, h.1⟩) rfl rfl (fun g hB hC hN => ?_)
  have loop77 : ∀ (n9 : Nat) (n : Nat) (S1 C1 : Nat → Int32) (d : Int64) (a : Option Value), n + n9 = k → cF (ck_mns FF cl n) V T Q Fo St Al C1 d c (mi + n) → (ck_mns FF cl n).2.1 94 = A 94 → g 77 [some (.ref 64), some (.int (nI c)), some (.int (nI k)), some (.int 0), some (.ref (bl (8 + c))), some (.int (nI (mi + k))), some (.int ((ck_mns FF cl n).1 51)), some (.int ((ck_mns FF cl n).1 52)), some (.int (nI (mi + n))), a] [] (cW P 70 (bl c) S1 d gh C1) sz 0 0 := by
    intro n9
    induction n9 with
    | zero =>
      intro n S1 C1 d a hnk hF h94n
      · obtain rfl : n = k := by omega
        obtain ⟨-, ⟨-, -, a9, ha9, ea9⟩, -, -, hM9, -, -, -, -, hd9, -⟩ := id hF
        have hdd : d = lN a9 := hd9.trans ea9
        have hres : ck_seenV (ck_mns FF cl n) c 0 = ck_err (lN a9) (nI (mi + n)) := by
          show ck_err _ _ = _
          rw [ea9, hM9]
        subst hdd
        have he9 := fun q => ct_X1_errorIn l G (sz := sz) (c := 70) ha9 (cW_c (P := P) (w := bl c) (S := S1) (C := C1) (d := lN a9) (h := gh)) (mi := mi + n) q
        refine hB bX10_foretold_77 _ _ _ _ _ _ _ kX10_foretold_77 ?_
        dsimp only [bX10_foretold_77, kx_wp, kx_step, kx_lI, kx_lL, kx_lA, kx_gl, kx_pI, kx_pL, kx_pR, kx_pA, kx_pV, kx_s1, kx_s2, kx_sl, kx_pre, kx_c2, kx_pl, kx_cmp, kx_oF, kx_eqN, kx_nil, kx_c1, kx_ft, kx_aI, kx_aL, kx_aR, kx_ln, Nat.reduceAdd, Option.toList, List.cons_append, List.nil_append, cf10_0, cf0_0, cf10_8, cf1_6, cf1_7, cf1_4]
        repeat (simp only [hk64, h64, h65, h70, nI_1, nI_add, ks_eq, ks_ss]; try dsimp only [kx_wp, kx_step, kx_lI, kx_lL, kx_lA, kx_gl, kx_pI, kx_pL, kx_pR, kx_pA, kx_pV, kx_s1, kx_s2, kx_sl, kx_pre, kx_c2, kx_pl, kx_cmp, kx_oF, kx_eqN, kx_nil, kx_c1, kx_ft, kx_aI, kx_aL, kx_aR, kx_ln, Nat.reduceAdd, Option.toList, List.cons_append, List.nil_append, cf10_0, cf0_0, cf10_8, cf1_6, cf1_7, cf1_4])
        repeat' apply And.intro
        all_goals try (first | with_reducible assumption | (with_reducible refine ck_nzI ?_; simp; done) | (with_reducible refine ck_nzL ?_; simp; done) | (with_reducible refine vp_in_nI ?_ ?_ <;> first | omega | decide) | (with_reducible refine Nat.le_of_ble_eq_true ?_; rfl) | omega | exact Or.inl trivial | exact Or.inr trivial | exact Or.inl rfl | exact Or.inr rfl)
        · intro zc81
          with_reducible first | have ze81 := Int32.not_lt.mpr zc81 | have ze81 := zc81
          refine hB bX10_foretold_134 _ _ _ _ _ _ _ kX10_foretold_134 ?_
          dsimp only [bX10_foretold_134, kx_wp, kx_step, kx_lI, kx_lL, kx_lA, kx_gl, kx_pI, kx_pL, kx_pR, kx_pA, kx_pV, kx_s1, kx_s2, kx_sl, kx_pre, kx_c2, kx_pl, kx_cmp, kx_oF, kx_eqN, kx_nil, kx_c1, kx_ft, kx_aI, kx_aL, kx_aR, kx_ln, Nat.reduceAdd, Option.toList, List.cons_append, List.nil_append, cf10_0, cf0_0, cf10_8, cf1_6, cf1_7, cf1_4]
          repeat (simp only [hk64, h64, h65, h70, nI_1, nI_add, ks_eq, ks_ss]; try dsimp only [kx_wp, kx_step, kx_lI, kx_lL, kx_lA, kx_gl, kx_pI, kx_pL, kx_pR, kx_pA, kx_pV, kx_s1, kx_s2, kx_sl, kx_pre, kx_c2, kx_pl, kx_cmp, kx_oF, kx_eqN, kx_nil, kx_c1, kx_ft, kx_aI, kx_aL, kx_aR, kx_ln, Nat.reduceAdd, Option.toList, List.cons_append, List.nil_append, cf10_0, cf0_0, cf10_8, cf1_6, cf1_7, cf1_4])
          repeat' apply And.intro
          all_goals try (first | with_reducible assumption | (with_reducible refine ck_nzI ?_; simp; done) | (with_reducible refine ck_nzL ?_; simp; done) | (with_reducible refine vp_in_nI ?_ ?_ <;> first | omega | decide) | (with_reducible refine Nat.le_of_ble_eq_true ?_; rfl) | omega | exact Or.inl trivial | exact Or.inr trivial | exact Or.inl rfl | exact Or.inr rfl)
          · exact fun zc135 => absurd zc135 (by decide)
          refine kx_sw (ws := [172, 182, 190, 198, 206, 214]) rfl ?_
          dsimp only [kx_swl]
          refine ⟨fun zc135_0 => ?_, fun zc135_1 => absurd zc135_1 (by decide), fun zc135_2 => absurd zc135_2 (by decide), fun zc135_3 => absurd zc135_3 (by decide), fun zc135_4 => absurd zc135_4 (by decide), fun zc135_5 => absurd zc135_5 (by decide), trivial⟩
          refine hB bX10_foretold_172 _ _ _ _ _ _ _ kX10_foretold_172 ?_
          dsimp only [bX10_foretold_172, kx_wp, kx_step, kx_lI, kx_lL, kx_lA, kx_gl, kx_pI, kx_pL, kx_pR, kx_pA, kx_pV, kx_s1, kx_s2, kx_sl, kx_pre, kx_c2, kx_pl, kx_cmp, kx_oF, kx_eqN, kx_nil, kx_c1, kx_ft, kx_aI, kx_aL, kx_aR, kx_ln, Nat.reduceAdd, Option.toList, List.cons_append, List.nil_append, cf10_0, cf0_0, cf10_8, cf1_6, cf1_7, cf1_4]
          repeat (simp only [hk64, h64, h65, h70, nI_1, nI_add, ks_eq, ks_ss]; try dsimp only [kx_wp, kx_step, kx_lI, kx_lL, kx_lA, kx_gl, kx_pI, kx_pL, kx_pR, kx_pA, kx_pV, kx_s1, kx_s2, kx_sl, kx_pre, kx_c2, kx_pl, kx_cmp, kx_oF, kx_eqN, kx_nil, kx_c1, kx_ft, kx_aI, kx_aL, kx_aR, kx_ln, Nat.reduceAdd, Option.toList, List.cons_append, List.nil_append, cf10_0, cf0_0, cf10_8, cf1_6, cf1_7, cf1_4])
          repeat' apply And.intro
          all_goals try (first | with_reducible assumption | (with_reducible refine ck_nzI ?_; simp; done) | (with_reducible refine ck_nzL ?_; simp; done) | (with_reducible refine vp_in_nI ?_ ?_ <;> first | omega | decide) | (with_reducible refine Nat.le_of_ble_eq_true ?_; rfl) | omega | exact Or.inl trivial | exact Or.inr trivial | exact Or.inl rfl | exact Or.inr rfl)
          refine hC.1 146 _ _ _ _ _ _ _ 1 _ _ _ _ _ _ _ _ _ _ _ _ lX10_146 (he9 (by omega)) ⟨by decide, rfl⟩ (cW_c) rfl rfl (Nat.le_of_ble_eq_true rfl) (by first | decide | omega) (by decide) (by omega) (by omega) dX10_foretold_178 ?_
          refine hB bX10_foretold_181 _ _ _ _ _ _ _ kX10_foretold_181 ?_
          dsimp only [bX10_foretold_181, kx_wp, kx_step, kx_lI, kx_lL, kx_lA, kx_gl, kx_pI, kx_pL, kx_pR, kx_pA, kx_pV, kx_s1, kx_s2, kx_sl, kx_pre, kx_c2, kx_pl, kx_cmp, kx_oF, kx_eqN, kx_nil, kx_c1, kx_ft, kx_aI, kx_aL, kx_aR, kx_ln, Nat.reduceAdd, Option.toList, List.cons_append, List.nil_append, cf10_0, cf0_0, cf10_8, cf1_6, cf1_7, cf1_4]
          repeat (simp only [hk64, h64, h65, h70, nI_1, nI_add, ks_eq, ks_ss]; try dsimp only [kx_wp, kx_step, kx_lI, kx_lL, kx_lA, kx_gl, kx_pI, kx_pL, kx_pR, kx_pA, kx_pV, kx_s1, kx_s2, kx_sl, kx_pre, kx_c2, kx_pl, kx_cmp, kx_oF, kx_eqN, kx_nil, kx_c1, kx_ft, kx_aI, kx_aL, kx_aR, kx_ln, Nat.reduceAdd, Option.toList, List.cons_append, List.nil_append, cf10_0, cf0_0, cf10_8, cf1_6, cf1_7, cf1_4])
          all_goals (repeat' apply And.intro)
          all_goals ((try clear hB hC hN); first | exact True.intro | rfl | (rw [hres]; done) | exact haf _ _ _ _ | decide)
        · intro zc81
          first | exact absurd rfl zc81 | exact absurd zc81 (by decide) | exact absurd (by decide) zc81 | (exfalso; first | exact absurd ((nI_ltI (a := k) (b := 1) (by omega) (by omega)).mp zc9) (by omega) | exact absurd ((nI_ltI (a := 3000) (b := k) (by omega) (by omega)).mp zc16) (by omega) | exact absurd zc20 (by decide) | exact absurd zc26 (by decide) | exact absurd ((nI_leI (a := mi + k) (b := mi + n) (by omega) (by omega)).mp zc81) (by omega) | exact absurd ((nI_leI (a := mi + k) (b := mi + n) (by omega) (by omega)).mpr (by omega)) zc81 | exact absurd ((nI_leI (a := mi + n) (b := mi + n) (by omega) (by omega)).mpr (by omega)) zc81) | (exfalso; simp_all; done)
    | succ n9 ih =>
      intro n S1 C1 d a hnk hF h94n
      · have hk2 : n < k := by omega
        obtain ⟨lf, a9, mo, hf, hd9, ha9, h6, hlf, hmo, hmo2, hstep⟩ := cF_s hF hc hcl (show mi + n < 100000 by omega)
        obtain ⟨S2, d2, C2, he⟩ : ∃ S2 d2 C2, cx_gm V T Q (fun j => (ck_mns FF cl n).2.1 106 (400 * c + j)) (fun j => (ck_mns FF cl n).2.1 107 (400 * c + j)) S1 C1 ((ck_mns FF cl n).2.1 105 c).toNatClampNeg (Al 1) lf a9 mo = (S2, d2, C2) := ⟨_, _, _, rfl⟩
        obtain ⟨hF2, h942, h52, hle, hgt⟩ := hstep S1 S2 d2 C2 he
        rw [← hms] at hF2 h942 h52 hle hgt
        rw [h94n] at hmo h942
        have hg9 := ct_X1_goMinute l G (sz := sz) H (S := S1) (C := C1) (d := d) (h := gh) hf (mi := mi + n) (by omega) hd9 ha9 h6 hlf hmo hmo2
        rw [he] at hg9
        dsimp only at hg9
        have hr9 := ct_X1_heardStrokes l G (sz := sz) (c := 70) (cW_c (P := P) (w := bl c) (S := S2) (C := C2) (d := d2) (h := gh))
        have hk65 : cW P 70 (bl c) S1 d gh C1 65 = kO 0 (kf cr0 Al) := (cW_o (by decide) (by omega)).trans h65
        refine hB bX10_foretold_77 _ _ _ _ _ _ _ kX10_foretold_77 ?_
        dsimp only [bX10_foretold_77, kx_wp, kx_step, kx_lI, kx_lL, kx_lA, kx_gl, kx_pI, kx_pL, kx_pR, kx_pA, kx_pV, kx_s1, kx_s2, kx_sl, kx_pre, kx_c2, kx_pl, kx_cmp, kx_oF, kx_eqN, kx_nil, kx_c1, kx_ft, kx_aI, kx_aL, kx_aR, kx_ln, Nat.reduceAdd, Option.toList, List.cons_append, List.nil_append, cf10_0, cf0_0, cf10_8, cf1_6, cf1_7, cf1_4]
        repeat (simp only [hk64, h64, h65, h70, nI_1, nI_add, ks_eq, ks_ss]; try dsimp only [kx_wp, kx_step, kx_lI, kx_lL, kx_lA, kx_gl, kx_pI, kx_pL, kx_pR, kx_pA, kx_pV, kx_s1, kx_s2, kx_sl, kx_pre, kx_c2, kx_pl, kx_cmp, kx_oF, kx_eqN, kx_nil, kx_c1, kx_ft, kx_aI, kx_aL, kx_aR, kx_ln, Nat.reduceAdd, Option.toList, List.cons_append, List.nil_append, cf10_0, cf0_0, cf10_8, cf1_6, cf1_7, cf1_4])
        repeat' apply And.intro
        all_goals try (first | with_reducible assumption | (with_reducible refine ck_nzI ?_; simp; done) | (with_reducible refine ck_nzL ?_; simp; done) | (with_reducible refine vp_in_nI ?_ ?_ <;> first | omega | decide) | (with_reducible refine Nat.le_of_ble_eq_true ?_; rfl) | omega | exact Or.inl trivial | exact Or.inr trivial | exact Or.inl rfl | exact Or.inr rfl)
        · intro zc81
          first | exact absurd rfl zc81 | exact absurd zc81 (by decide) | exact absurd (by decide) zc81 | (exfalso; first | exact absurd ((nI_ltI (a := k) (b := 1) (by omega) (by omega)).mp zc9) (by omega) | exact absurd ((nI_ltI (a := 3000) (b := k) (by omega) (by omega)).mp zc16) (by omega) | exact absurd zc20 (by decide) | exact absurd zc26 (by decide) | exact absurd ((nI_leI (a := mi + k) (b := mi + n) (by omega) (by omega)).mp zc81) (by omega) | exact absurd ((nI_leI (a := mi + k) (b := mi + n) (by omega) (by omega)).mpr (by omega)) zc81 | exact absurd ((nI_leI (a := mi + n) (b := mi + n) (by omega) (by omega)).mpr (by omega)) zc81) | (exfalso; simp_all; done)
        · intro zc81
          with_reducible first | have ze81 := Int32.not_le.mp zc81 | have ze81 := zc81
          refine hB bX10_foretold_84 _ _ _ _ _ _ _ kX10_foretold_84 ?_
          dsimp only [bX10_foretold_84, kx_wp, kx_step, kx_lI, kx_lL, kx_lA, kx_gl, kx_pI, kx_pL, kx_pR, kx_pA, kx_pV, kx_s1, kx_s2, kx_sl, kx_pre, kx_c2, kx_pl, kx_cmp, kx_oF, kx_eqN, kx_nil, kx_c1, kx_ft, kx_aI, kx_aL, kx_aR, kx_ln, Nat.reduceAdd, Option.toList, List.cons_append, List.nil_append, cf10_0, cf0_0, cf10_8, cf1_6, cf1_7, cf1_4]
          repeat (simp only [hk64, h64, h65, h70, nI_1, nI_add, ks_eq, ks_ss]; try dsimp only [kx_wp, kx_step, kx_lI, kx_lL, kx_lA, kx_gl, kx_pI, kx_pL, kx_pR, kx_pA, kx_pV, kx_s1, kx_s2, kx_sl, kx_pre, kx_c2, kx_pl, kx_cmp, kx_oF, kx_eqN, kx_nil, kx_c1, kx_ft, kx_aI, kx_aL, kx_aR, kx_ln, Nat.reduceAdd, Option.toList, List.cons_append, List.nil_append, cf10_0, cf0_0, cf10_8, cf1_6, cf1_7, cf1_4])
          repeat' apply And.intro
          all_goals try (first | with_reducible assumption | (with_reducible refine ck_nzI ?_; simp; done) | (with_reducible refine ck_nzL ?_; simp; done) | (with_reducible refine vp_in_nI ?_ ?_ <;> first | omega | decide) | (with_reducible refine Nat.le_of_ble_eq_true ?_; rfl) | omega | exact Or.inl trivial | exact Or.inr trivial | exact Or.inl rfl | exact Or.inr rfl)
          refine hC.1 330 _ _ _ _ _ _ _ 1 _ _ _ _ _ _ _ _ _ _ _ _ lX10_330 (hg9) ⟨by decide, rfl⟩ (cW_c) rfl rfl (Nat.le_of_ble_eq_true rfl) (by first | decide | omega) (by decide) (by omega) (by omega) dX10_foretold_94 ?_
          refine hB bX10_foretold_97 _ _ _ _ _ _ _ kX10_foretold_97 ?_
          dsimp only [bX10_foretold_97, kx_wp, kx_step, kx_lI, kx_lL, kx_lA, kx_gl, kx_pI, kx_pL, kx_pR, kx_pA, kx_pV, kx_s1, kx_s2, kx_sl, kx_pre, kx_c2, kx_pl, kx_cmp, kx_oF, kx_eqN, kx_nil, kx_c1, kx_ft, kx_aI, kx_aL, kx_aR, kx_ln, Nat.reduceAdd, Option.toList, List.cons_append, List.nil_append, cf10_0, cf0_0, cf10_8, cf1_6, cf1_7, cf1_4]
          repeat (simp only [hk64, h64, h65, h70, nI_1, nI_add, ks_eq, ks_ss]; try dsimp only [kx_wp, kx_step, kx_lI, kx_lL, kx_lA, kx_gl, kx_pI, kx_pL, kx_pR, kx_pA, kx_pV, kx_s1, kx_s2, kx_sl, kx_pre, kx_c2, kx_pl, kx_cmp, kx_oF, kx_eqN, kx_nil, kx_c1, kx_ft, kx_aI, kx_aL, kx_aR, kx_ln, Nat.reduceAdd, Option.toList, List.cons_append, List.nil_append, cf10_0, cf0_0, cf10_8, cf1_6, cf1_7, cf1_4])
          repeat' apply And.intro
          all_goals try (first | with_reducible assumption | (with_reducible refine ck_nzI ?_; simp; done) | (with_reducible refine ck_nzL ?_; simp; done) | (with_reducible refine vp_in_nI ?_ ?_ <;> first | omega | decide) | (with_reducible refine Nat.le_of_ble_eq_true ?_; rfl) | omega | exact Or.inl trivial | exact Or.inr trivial | exact Or.inl rfl | exact Or.inr rfl)
          refine hC.1 334 _ _ _ _ _ _ _ 1 _ _ _ _ _ _ _ _ _ _ _ _ lX10_334 (hr9) ⟨by decide, rfl⟩ (cW_c) rfl rfl (Nat.le_of_ble_eq_true rfl) (by first | decide | omega) (by decide) (by omega) (by omega) dX10_foretold_101 ?_
          refine hB bX10_foretold_104 _ _ _ _ _ _ _ kX10_foretold_104 ?_
          dsimp only [bX10_foretold_104, kx_wp, kx_step, kx_lI, kx_lL, kx_lA, kx_gl, kx_pI, kx_pL, kx_pR, kx_pA, kx_pV, kx_s1, kx_s2, kx_sl, kx_pre, kx_c2, kx_pl, kx_cmp, kx_oF, kx_eqN, kx_nil, kx_c1, kx_ft, kx_aI, kx_aL, kx_aR, kx_ln, Nat.reduceAdd, Option.toList, List.cons_append, List.nil_append, cf10_0, cf0_0, cf10_8, cf1_6, cf1_7, cf1_4]
          repeat (simp only [hk64, h64, h65, h70, nI_1, nI_add, ks_eq, ks_ss]; try dsimp only [kx_wp, kx_step, kx_lI, kx_lL, kx_lA, kx_gl, kx_pI, kx_pL, kx_pR, kx_pA, kx_pV, kx_s1, kx_s2, kx_sl, kx_pre, kx_c2, kx_pl, kx_cmp, kx_oF, kx_eqN, kx_nil, kx_c1, kx_ft, kx_aI, kx_aL, kx_aR, kx_ln, Nat.reduceAdd, Option.toList, List.cons_append, List.nil_append, cf10_0, cf0_0, cf10_8, cf1_6, cf1_7, cf1_4])
          repeat' apply And.intro
          all_goals try (first | with_reducible assumption | (with_reducible refine ck_nzI ?_; simp; done) | (with_reducible refine ck_nzL ?_; simp; done) | (with_reducible refine vp_in_nI ?_ ?_ <;> first | omega | decide) | (with_reducible refine Nat.le_of_ble_eq_true ?_; rfl) | omega | exact Or.inl trivial | exact Or.inr trivial | exact Or.inl rfl | exact Or.inr rfl)
          · intro zc110
            with_reducible first | have ze110 := Int32.not_lt.mpr zc110 | have ze110 := zc110
            refine hB bX10_foretold_117 _ _ _ _ _ _ _ kX10_foretold_117 ?_
            dsimp only [bX10_foretold_117, kx_wp, kx_step, kx_lI, kx_lL, kx_lA, kx_gl, kx_pI, kx_pL, kx_pR, kx_pA, kx_pV, kx_s1, kx_s2, kx_sl, kx_pre, kx_c2, kx_pl, kx_cmp, kx_oF, kx_eqN, kx_nil, kx_c1, kx_ft, kx_aI, kx_aL, kx_aR, kx_ln, Nat.reduceAdd, Option.toList, List.cons_append, List.nil_append, cf10_0, cf0_0, cf10_8, cf1_6, cf1_7, cf1_4]
            repeat (simp only [hk64, h64, h65, h70, nI_1, nI_add, ks_eq, ks_ss]; try dsimp only [kx_wp, kx_step, kx_lI, kx_lL, kx_lA, kx_gl, kx_pI, kx_pL, kx_pR, kx_pA, kx_pV, kx_s1, kx_s2, kx_sl, kx_pre, kx_c2, kx_pl, kx_cmp, kx_oF, kx_eqN, kx_nil, kx_c1, kx_ft, kx_aI, kx_aL, kx_aR, kx_ln, Nat.reduceAdd, Option.toList, List.cons_append, List.nil_append, cf10_0, cf0_0, cf10_8, cf1_6, cf1_7, cf1_4])
            repeat' apply And.intro
            all_goals try (first | with_reducible assumption | (with_reducible refine ck_nzI ?_; simp; done) | (with_reducible refine ck_nzL ?_; simp; done) | (with_reducible refine vp_in_nI ?_ ?_ <;> first | omega | decide) | (with_reducible refine Nat.le_of_ble_eq_true ?_; rfl) | omega | exact Or.inl trivial | exact Or.inr trivial | exact Or.inl rfl | exact Or.inr rfl)
            refine hB bX10_foretold_118 _ _ _ _ _ _ _ kX10_foretold_118 ?_
            dsimp only [bX10_foretold_118, kx_wp, kx_step, kx_lI, kx_lL, kx_lA, kx_gl, kx_pI, kx_pL, kx_pR, kx_pA, kx_pV, kx_s1, kx_s2, kx_sl, kx_pre, kx_c2, kx_pl, kx_cmp, kx_oF, kx_eqN, kx_nil, kx_c1, kx_ft, kx_aI, kx_aL, kx_aR, kx_ln, Nat.reduceAdd, Option.toList, List.cons_append, List.nil_append, cf10_0, cf0_0, cf10_8, cf1_6, cf1_7, cf1_4]
            repeat (simp only [hk64, h64, h65, h70, nI_1, nI_add, ks_eq, ks_ss]; try dsimp only [kx_wp, kx_step, kx_lI, kx_lL, kx_lA, kx_gl, kx_pI, kx_pL, kx_pR, kx_pA, kx_pV, kx_s1, kx_s2, kx_sl, kx_pre, kx_c2, kx_pl, kx_cmp, kx_oF, kx_eqN, kx_nil, kx_c1, kx_ft, kx_aI, kx_aL, kx_aR, kx_ln, Nat.reduceAdd, Option.toList, List.cons_append, List.nil_append, cf10_0, cf0_0, cf10_8, cf1_6, cf1_7, cf1_4])
            repeat' apply And.intro
            all_goals try (first | with_reducible assumption | (with_reducible refine ck_nzI ?_; simp; done) | (with_reducible refine ck_nzL ?_; simp; done) | (with_reducible refine vp_in_nI ?_ ?_ <;> first | omega | decide) | (with_reducible refine Nat.le_of_ble_eq_true ?_; rfl) | omega | exact Or.inl trivial | exact Or.inr trivial | exact Or.inl rfl | exact Or.inr rfl)
            have hih := fun a => ih (n + 1) S2 C2 d2 a (by omega) hF2 h942
            rw [h52, show mi + (n + 1) = mi + n + 1 from rfl] at hih
            first | (rw [hle zc110] at hih; exact hih _) | (rw [hgt zc110] at hih; exact hih _)
          · intro zc110
            with_reducible first | have ze110 := Int32.not_le.mp zc110 | have ze110 := zc110
            refine hB bX10_foretold_113 _ _ _ _ _ _ _ kX10_foretold_113 ?_
            dsimp only [bX10_foretold_113, kx_wp, kx_step, kx_lI, kx_lL, kx_lA, kx_gl, kx_pI, kx_pL, kx_pR, kx_pA, kx_pV, kx_s1, kx_s2, kx_sl, kx_pre, kx_c2, kx_pl, kx_cmp, kx_oF, kx_eqN, kx_nil, kx_c1, kx_ft, kx_aI, kx_aL, kx_aR, kx_ln, Nat.reduceAdd, Option.toList, List.cons_append, List.nil_append, cf10_0, cf0_0, cf10_8, cf1_6, cf1_7, cf1_4]
            repeat (simp only [hk64, h64, h65, h70, nI_1, nI_add, ks_eq, ks_ss]; try dsimp only [kx_wp, kx_step, kx_lI, kx_lL, kx_lA, kx_gl, kx_pI, kx_pL, kx_pR, kx_pA, kx_pV, kx_s1, kx_s2, kx_sl, kx_pre, kx_c2, kx_pl, kx_cmp, kx_oF, kx_eqN, kx_nil, kx_c1, kx_ft, kx_aI, kx_aL, kx_aR, kx_ln, Nat.reduceAdd, Option.toList, List.cons_append, List.nil_append, cf10_0, cf0_0, cf10_8, cf1_6, cf1_7, cf1_4])
            repeat' apply And.intro
            all_goals try (first | with_reducible assumption | (with_reducible refine ck_nzI ?_; simp; done) | (with_reducible refine ck_nzL ?_; simp; done) | (with_reducible refine vp_in_nI ?_ ?_ <;> first | omega | decide) | (with_reducible refine Nat.le_of_ble_eq_true ?_; rfl) | omega | exact Or.inl trivial | exact Or.inr trivial | exact Or.inl rfl | exact Or.inr rfl)
            refine hB bX10_foretold_118 _ _ _ _ _ _ _ kX10_foretold_118 ?_
            dsimp only [bX10_foretold_118, kx_wp, kx_step, kx_lI, kx_lL, kx_lA, kx_gl, kx_pI, kx_pL, kx_pR, kx_pA, kx_pV, kx_s1, kx_s2, kx_sl, kx_pre, kx_c2, kx_pl, kx_cmp, kx_oF, kx_eqN, kx_nil, kx_c1, kx_ft, kx_aI, kx_aL, kx_aR, kx_ln, Nat.reduceAdd, Option.toList, List.cons_append, List.nil_append, cf10_0, cf0_0, cf10_8, cf1_6, cf1_7, cf1_4]
            repeat (simp only [hk64, h64, h65, h70, nI_1, nI_add, ks_eq, ks_ss]; try dsimp only [kx_wp, kx_step, kx_lI, kx_lL, kx_lA, kx_gl, kx_pI, kx_pL, kx_pR, kx_pA, kx_pV, kx_s1, kx_s2, kx_sl, kx_pre, kx_c2, kx_pl, kx_cmp, kx_oF, kx_eqN, kx_nil, kx_c1, kx_ft, kx_aI, kx_aL, kx_aR, kx_ln, Nat.reduceAdd, Option.toList, List.cons_append, List.nil_append, cf10_0, cf0_0, cf10_8, cf1_6, cf1_7, cf1_4])
            repeat' apply And.intro
            all_goals try (first | with_reducible assumption | (with_reducible refine ck_nzI ?_; simp; done) | (with_reducible refine ck_nzL ?_; simp; done) | (with_reducible refine vp_in_nI ?_ ?_ <;> first | omega | decide) | (with_reducible refine Nat.le_of_ble_eq_true ?_; rfl) | omega | exact Or.inl trivial | exact Or.inr trivial | exact Or.inl rfl | exact Or.inr rfl)
            have hih := fun a => ih (n + 1) S2 C2 d2 a (by omega) hF2 h942
            rw [h52, show mi + (n + 1) = mi + n + 1 from rfl] at hih
            first | (rw [hle zc110] at hih; exact hih _) | (rw [hgt zc110] at hih; exact hih _)
  refine hB bX10_foretold_0 _ _ _ _ _ _ _ kX10_foretold_0 ?_
  dsimp only [bX10_foretold_0, kx_wp, kx_step, kx_lI, kx_lL, kx_lA, kx_gl, kx_pI, kx_pL, kx_pR, kx_pA, kx_pV, kx_s1, kx_s2, kx_sl, kx_pre, kx_c2, kx_pl, kx_cmp, kx_oF, kx_eqN, kx_nil, kx_c1, kx_ft, kx_aI, kx_aL, kx_aR, kx_ln, Nat.reduceAdd, Option.toList, List.cons_append, List.nil_append, cf10_0, cf0_0, cf10_8, cf1_6, cf1_7, cf1_4]
  repeat (simp only [hk64, h64, h65, h70, nI_1, nI_add, ks_eq, ks_ss]; try dsimp only [kx_wp, kx_step, kx_lI, kx_lL, kx_lA, kx_gl, kx_pI, kx_pL, kx_pR, kx_pA, kx_pV, kx_s1, kx_s2, kx_sl, kx_pre, kx_c2, kx_pl, kx_cmp, kx_oF, kx_eqN, kx_nil, kx_c1, kx_ft, kx_aI, kx_aL, kx_aR, kx_ln, Nat.reduceAdd, Option.toList, List.cons_append, List.nil_append, cf10_0, cf0_0, cf10_8, cf1_6, cf1_7, cf1_4])
  repeat' apply And.intro
  all_goals try (first | with_reducible assumption | (with_reducible refine ck_nzI ?_; simp; done) | (with_reducible refine ck_nzL ?_; simp; done) | (with_reducible refine vp_in_nI ?_ ?_ <;> first | omega | decide) | (with_reducible refine Nat.le_of_ble_eq_true ?_; rfl) | omega | exact Or.inl trivial | exact Or.inr trivial | exact Or.inl rfl | exact Or.inr rfl)
  refine hC.1 138 _ _ _ _ _ _ _ 10 _ _ _ _ _ _ _ _ _ _ _ _ lX10_138 (ct_X10_theClock l G h64 h69 hK7 hcl hc) ⟨by decide, rfl⟩ (h64) rfl rfl (Nat.le_of_ble_eq_true rfl) (by first | decide | omega) (by decide) (by omega) (by omega) dX10_foretold_2 ?_
  refine hB bX10_foretold_5 _ _ _ _ _ _ _ kX10_foretold_5 ?_
  dsimp only [bX10_foretold_5, kx_wp, kx_step, kx_lI, kx_lL, kx_lA, kx_gl, kx_pI, kx_pL, kx_pR, kx_pA, kx_pV, kx_s1, kx_s2, kx_sl, kx_pre, kx_c2, kx_pl, kx_cmp, kx_oF, kx_eqN, kx_nil, kx_c1, kx_ft, kx_aI, kx_aL, kx_aR, kx_ln, Nat.reduceAdd, Option.toList, List.cons_append, List.nil_append, cf10_0, cf0_0, cf10_8, cf1_6, cf1_7, cf1_4]
  repeat (simp only [hk64, h64, h65, h70, nI_1, nI_add, ks_eq, ks_ss]; try dsimp only [kx_wp, kx_step, kx_lI, kx_lL, kx_lA, kx_gl, kx_pI, kx_pL, kx_pR, kx_pA, kx_pV, kx_s1, kx_s2, kx_sl, kx_pre, kx_c2, kx_pl, kx_cmp, kx_oF, kx_eqN, kx_nil, kx_c1, kx_ft, kx_aI, kx_aL, kx_aR, kx_ln, Nat.reduceAdd, Option.toList, List.cons_append, List.nil_append, cf10_0, cf0_0, cf10_8, cf1_6, cf1_7, cf1_4])
  repeat' apply And.intro
  all_goals try (first | with_reducible assumption | (with_reducible refine ck_nzI ?_; simp; done) | (with_reducible refine ck_nzL ?_; simp; done) | (with_reducible refine vp_in_nI ?_ ?_ <;> first | omega | decide) | (with_reducible refine Nat.le_of_ble_eq_true ?_; rfl) | omega | exact Or.inl trivial | exact Or.inr trivial | exact Or.inl rfl | exact Or.inr rfl)
  · intro zc9
    first | exact absurd rfl zc9 | exact absurd zc9 (by decide) | exact absurd (by decide) zc9 | (exfalso; first | exact absurd ((nI_ltI (a := k) (b := 1) (by omega) (by omega)).mp zc9) (by omega) | exact absurd ((nI_ltI (a := 3000) (b := k) (by omega) (by omega)).mp zc16) (by omega) | exact absurd zc20 (by decide) | exact absurd zc26 (by decide) | exact absurd ((nI_leI (a := mi + k) (b := mi + n) (by omega) (by omega)).mp zc81) (by omega) | exact absurd ((nI_leI (a := mi + k) (b := mi + n) (by omega) (by omega)).mpr (by omega)) zc81 | exact absurd ((nI_leI (a := mi + n) (b := mi + n) (by omega) (by omega)).mpr (by omega)) zc81) | (exfalso; simp_all; done)
  · intro zc9
    with_reducible first | have ze9 := Int32.not_lt.mp zc9 | have ze9 := zc9
    refine hB bX10_foretold_12 _ _ _ _ _ _ _ kX10_foretold_12 ?_
    dsimp only [bX10_foretold_12, kx_wp, kx_step, kx_lI, kx_lL, kx_lA, kx_gl, kx_pI, kx_pL, kx_pR, kx_pA, kx_pV, kx_s1, kx_s2, kx_sl, kx_pre, kx_c2, kx_pl, kx_cmp, kx_oF, kx_eqN, kx_nil, kx_c1, kx_ft, kx_aI, kx_aL, kx_aR, kx_ln, Nat.reduceAdd, Option.toList, List.cons_append, List.nil_append, cf10_0, cf0_0, cf10_8, cf1_6, cf1_7, cf1_4]
    repeat (simp only [hk64, h64, h65, h70, nI_1, nI_add, ks_eq, ks_ss]; try dsimp only [kx_wp, kx_step, kx_lI, kx_lL, kx_lA, kx_gl, kx_pI, kx_pL, kx_pR, kx_pA, kx_pV, kx_s1, kx_s2, kx_sl, kx_pre, kx_c2, kx_pl, kx_cmp, kx_oF, kx_eqN, kx_nil, kx_c1, kx_ft, kx_aI, kx_aL, kx_aR, kx_ln, Nat.reduceAdd, Option.toList, List.cons_append, List.nil_append, cf10_0, cf0_0, cf10_8, cf1_6, cf1_7, cf1_4])
    repeat' apply And.intro
    all_goals try (first | with_reducible assumption | (with_reducible refine ck_nzI ?_; simp; done) | (with_reducible refine ck_nzL ?_; simp; done) | (with_reducible refine vp_in_nI ?_ ?_ <;> first | omega | decide) | (with_reducible refine Nat.le_of_ble_eq_true ?_; rfl) | omega | exact Or.inl trivial | exact Or.inr trivial | exact Or.inl rfl | exact Or.inr rfl)
    · intro zc16
      first | exact absurd rfl zc16 | exact absurd zc16 (by decide) | exact absurd (by decide) zc16 | (exfalso; first | exact absurd ((nI_ltI (a := k) (b := 1) (by omega) (by omega)).mp zc9) (by omega) | exact absurd ((nI_ltI (a := 3000) (b := k) (by omega) (by omega)).mp zc16) (by omega) | exact absurd zc20 (by decide) | exact absurd zc26 (by decide) | exact absurd ((nI_leI (a := mi + k) (b := mi + n) (by omega) (by omega)).mp zc81) (by omega) | exact absurd ((nI_leI (a := mi + k) (b := mi + n) (by omega) (by omega)).mpr (by omega)) zc81 | exact absurd ((nI_leI (a := mi + n) (b := mi + n) (by omega) (by omega)).mpr (by omega)) zc81) | (exfalso; simp_all; done)
    · intro zc16
      with_reducible first | have ze16 := Int32.not_lt.mp zc16 | have ze16 := zc16
      refine hB bX10_foretold_19 _ _ _ _ _ _ _ kX10_foretold_19 ?_
      dsimp only [bX10_foretold_19, kx_wp, kx_step, kx_lI, kx_lL, kx_lA, kx_gl, kx_pI, kx_pL, kx_pR, kx_pA, kx_pV, kx_s1, kx_s2, kx_sl, kx_pre, kx_c2, kx_pl, kx_cmp, kx_oF, kx_eqN, kx_nil, kx_c1, kx_ft, kx_aI, kx_aL, kx_aR, kx_ln, Nat.reduceAdd, Option.toList, List.cons_append, List.nil_append, cf10_0, cf0_0, cf10_8, cf1_6, cf1_7, cf1_4]
      repeat (simp only [hk64, h64, h65, h70, nI_1, nI_add, ks_eq, ks_ss]; try dsimp only [kx_wp, kx_step, kx_lI, kx_lL, kx_lA, kx_gl, kx_pI, kx_pL, kx_pR, kx_pA, kx_pV, kx_s1, kx_s2, kx_sl, kx_pre, kx_c2, kx_pl, kx_cmp, kx_oF, kx_eqN, kx_nil, kx_c1, kx_ft, kx_aI, kx_aL, kx_aR, kx_ln, Nat.reduceAdd, Option.toList, List.cons_append, List.nil_append, cf10_0, cf0_0, cf10_8, cf1_6, cf1_7, cf1_4])
      repeat' apply And.intro
      all_goals try (first | with_reducible assumption | (with_reducible refine ck_nzI ?_; simp; done) | (with_reducible refine ck_nzL ?_; simp; done) | (with_reducible refine vp_in_nI ?_ ?_ <;> first | omega | decide) | (with_reducible refine Nat.le_of_ble_eq_true ?_; rfl) | omega | exact Or.inl trivial | exact Or.inr trivial | exact Or.inl rfl | exact Or.inr rfl)
      · intro zc20
        first | exact absurd rfl zc20 | exact absurd zc20 (by decide) | exact absurd (by decide) zc20 | (exfalso; first | exact absurd ((nI_ltI (a := k) (b := 1) (by omega) (by omega)).mp zc9) (by omega) | exact absurd ((nI_ltI (a := 3000) (b := k) (by omega) (by omega)).mp zc16) (by omega) | exact absurd zc20 (by decide) | exact absurd zc26 (by decide) | exact absurd ((nI_leI (a := mi + k) (b := mi + n) (by omega) (by omega)).mp zc81) (by omega) | exact absurd ((nI_leI (a := mi + k) (b := mi + n) (by omega) (by omega)).mpr (by omega)) zc81 | exact absurd ((nI_leI (a := mi + n) (b := mi + n) (by omega) (by omega)).mpr (by omega)) zc81) | (exfalso; simp_all; done)
      · intro zc20
        with_reducible first | have ze20 := Int32.not_lt.mp zc20 | have ze20 := zc20
        refine hB bX10_foretold_23 _ _ _ _ _ _ _ kX10_foretold_23 ?_
        dsimp only [bX10_foretold_23, kx_wp, kx_step, kx_lI, kx_lL, kx_lA, kx_gl, kx_pI, kx_pL, kx_pR, kx_pA, kx_pV, kx_s1, kx_s2, kx_sl, kx_pre, kx_c2, kx_pl, kx_cmp, kx_oF, kx_eqN, kx_nil, kx_c1, kx_ft, kx_aI, kx_aL, kx_aR, kx_ln, Nat.reduceAdd, Option.toList, List.cons_append, List.nil_append, cf10_0, cf0_0, cf10_8, cf1_6, cf1_7, cf1_4]
        repeat (simp only [hk64, h64, h65, h70, nI_1, nI_add, ks_eq, ks_ss]; try dsimp only [kx_wp, kx_step, kx_lI, kx_lL, kx_lA, kx_gl, kx_pI, kx_pL, kx_pR, kx_pA, kx_pV, kx_s1, kx_s2, kx_sl, kx_pre, kx_c2, kx_pl, kx_cmp, kx_oF, kx_eqN, kx_nil, kx_c1, kx_ft, kx_aI, kx_aL, kx_aR, kx_ln, Nat.reduceAdd, Option.toList, List.cons_append, List.nil_append, cf10_0, cf0_0, cf10_8, cf1_6, cf1_7, cf1_4])
        repeat' apply And.intro
        all_goals try (first | with_reducible assumption | (with_reducible refine ck_nzI ?_; simp; done) | (with_reducible refine ck_nzL ?_; simp; done) | (with_reducible refine vp_in_nI ?_ ?_ <;> first | omega | decide) | (with_reducible refine Nat.le_of_ble_eq_true ?_; rfl) | omega | exact Or.inl trivial | exact Or.inr trivial | exact Or.inl rfl | exact Or.inr rfl)
        · intro zc26
          first | exact absurd rfl zc26 | exact absurd zc26 (by decide) | exact absurd (by decide) zc26 | (exfalso; first | exact absurd ((nI_ltI (a := k) (b := 1) (by omega) (by omega)).mp zc9) (by omega) | exact absurd ((nI_ltI (a := 3000) (b := k) (by omega) (by omega)).mp zc16) (by omega) | exact absurd zc20 (by decide) | exact absurd zc26 (by decide) | exact absurd ((nI_leI (a := mi + k) (b := mi + n) (by omega) (by omega)).mp zc81) (by omega) | exact absurd ((nI_leI (a := mi + k) (b := mi + n) (by omega) (by omega)).mpr (by omega)) zc81 | exact absurd ((nI_leI (a := mi + n) (b := mi + n) (by omega) (by omega)).mpr (by omega)) zc81) | (exfalso; simp_all; done)
        · intro zc26
          with_reducible first | have ze26 := Int32.not_lt.mp zc26 | have ze26 := zc26
          refine hB bX10_foretold_29 _ _ _ _ _ _ _ kX10_foretold_29 ?_
          dsimp only [bX10_foretold_29, kx_wp, kx_step, kx_lI, kx_lL, kx_lA, kx_gl, kx_pI, kx_pL, kx_pR, kx_pA, kx_pV, kx_s1, kx_s2, kx_sl, kx_pre, kx_c2, kx_pl, kx_cmp, kx_oF, kx_eqN, kx_nil, kx_c1, kx_ft, kx_aI, kx_aL, kx_aR, kx_ln, Nat.reduceAdd, Option.toList, List.cons_append, List.nil_append, cf10_0, cf0_0, cf10_8, cf1_6, cf1_7, cf1_4]
          repeat (simp only [hk64, h64, h65, h70, nI_1, nI_add, ks_eq, ks_ss]; try dsimp only [kx_wp, kx_step, kx_lI, kx_lL, kx_lA, kx_gl, kx_pI, kx_pL, kx_pR, kx_pA, kx_pV, kx_s1, kx_s2, kx_sl, kx_pre, kx_c2, kx_pl, kx_cmp, kx_oF, kx_eqN, kx_nil, kx_c1, kx_ft, kx_aI, kx_aL, kx_aR, kx_ln, Nat.reduceAdd, Option.toList, List.cons_append, List.nil_append, cf10_0, cf0_0, cf10_8, cf1_6, cf1_7, cf1_4])
          repeat' apply And.intro
          all_goals try (first | with_reducible assumption | (with_reducible refine ck_nzI ?_; simp; done) | (with_reducible refine ck_nzL ?_; simp; done) | (with_reducible refine vp_in_nI ?_ ?_ <;> first | omega | decide) | (with_reducible refine Nat.le_of_ble_eq_true ?_; rfl) | omega | exact Or.inl trivial | exact Or.inr trivial | exact Or.inl rfl | exact Or.inr rfl)
          refine hC.2.1 95 _ _ _ _ _ _ _ _ _ _ _ _ _ _ _ _ _ lX10_95 (ct_X10_need l G (b := 1) (by decide)) rfl rfl (Nat.le_of_ble_eq_true rfl) (by first | decide | omega) (by decide) (by omega) (by omega) dX10_foretold_34 ?_
          refine hB bX10_foretold_37 _ _ _ _ _ _ _ kX10_foretold_37 ?_
          dsimp only [bX10_foretold_37, kx_wp, kx_step, kx_lI, kx_lL, kx_lA, kx_gl, kx_pI, kx_pL, kx_pR, kx_pA, kx_pV, kx_s1, kx_s2, kx_sl, kx_pre, kx_c2, kx_pl, kx_cmp, kx_oF, kx_eqN, kx_nil, kx_c1, kx_ft, kx_aI, kx_aL, kx_aR, kx_ln, Nat.reduceAdd, Option.toList, List.cons_append, List.nil_append, cf10_0, cf0_0, cf10_8, cf1_6, cf1_7, cf1_4]
          repeat (simp only [hk64, h64, h65, h70, nI_1, nI_add, ks_eq, ks_ss, al0]; try dsimp only [kx_wp, kx_step, kx_lI, kx_lL, kx_lA, kx_gl, kx_pI, kx_pL, kx_pR, kx_pA, kx_pV, kx_s1, kx_s2, kx_sl, kx_pre, kx_c2, kx_pl, kx_cmp, kx_oF, kx_eqN, kx_nil, kx_c1, kx_ft, kx_aI, kx_aL, kx_aR, kx_ln, Nat.reduceAdd, Option.toList, List.cons_append, List.nil_append, cf10_0, cf0_0, cf10_8, cf1_6, cf1_7, cf1_4])
          repeat' apply And.intro
          all_goals try (first | with_reducible assumption | (with_reducible refine ck_nzI ?_; simp; done) | (with_reducible refine ck_nzL ?_; simp; done) | (with_reducible refine vp_in_nI ?_ ?_ <;> first | omega | decide) | (with_reducible refine Nat.le_of_ble_eq_true ?_; rfl) | omega | exact Or.inl trivial | exact Or.inr trivial | exact Or.inl rfl | exact Or.inr rfl)
          refine hC.2.1 132 _ _ _ _ _ _ _ _ _ _ _ _ _ _ _ _ _ lX10_132 (ct_X10_needMinute l G (m := nI (mi + k)) ((nI_leI (a := mi + k) (b := 100000) (by omega) (by omega)).mpr hmk)) rfl rfl (Nat.le_of_ble_eq_true rfl) (by first | decide | omega) (by decide) (by omega) (by omega) dX10_foretold_50 ?_
          refine hB bX10_foretold_53 _ _ _ _ _ _ _ kX10_foretold_53 ?_
          dsimp only [bX10_foretold_53, kx_wp, kx_step, kx_lI, kx_lL, kx_lA, kx_gl, kx_pI, kx_pL, kx_pR, kx_pA, kx_pV, kx_s1, kx_s2, kx_sl, kx_pre, kx_c2, kx_pl, kx_cmp, kx_oF, kx_eqN, kx_nil, kx_c1, kx_ft, kx_aI, kx_aL, kx_aR, kx_ln, Nat.reduceAdd, Option.toList, List.cons_append, List.nil_append, cf10_0, cf0_0, cf10_8, cf1_6, cf1_7, cf1_4]
          repeat (simp only [hk64, h64, h65, h70, nI_1, nI_add, ks_eq, ks_ss]; try dsimp only [kx_wp, kx_step, kx_lI, kx_lL, kx_lA, kx_gl, kx_pI, kx_pL, kx_pR, kx_pA, kx_pV, kx_s1, kx_s2, kx_sl, kx_pre, kx_c2, kx_pl, kx_cmp, kx_oF, kx_eqN, kx_nil, kx_c1, kx_ft, kx_aI, kx_aL, kx_aR, kx_ln, Nat.reduceAdd, Option.toList, List.cons_append, List.nil_append, cf10_0, cf0_0, cf10_8, cf1_6, cf1_7, cf1_4])
          repeat' apply And.intro
          all_goals try (first | with_reducible assumption | (with_reducible refine ck_nzI ?_; simp; done) | (with_reducible refine ck_nzL ?_; simp; done) | (with_reducible refine vp_in_nI ?_ ?_ <;> first | omega | decide) | (with_reducible refine Nat.le_of_ble_eq_true ?_; rfl) | omega | exact Or.inl trivial | exact Or.inr trivial | exact Or.inl rfl | exact Or.inr rfl)
          refine hC.1 326 _ _ _ _ _ _ _ 1 _ _ _ _ _ _ _ _ _ _ _ _ lX10_326 (hb9) ⟨by decide, rfl⟩ (h70) rfl rfl (Nat.le_of_ble_eq_true rfl) (by first | decide | omega) (by decide) (by omega) (by omega) dX10_foretold_59 ?_
          refine hB bX10_foretold_62 _ _ _ _ _ _ _ kX10_foretold_62 ?_
          dsimp only [bX10_foretold_62, kx_wp, kx_step, kx_lI, kx_lL, kx_lA, kx_gl, kx_pI, kx_pL, kx_pR, kx_pA, kx_pV, kx_s1, kx_s2, kx_sl, kx_pre, kx_c2, kx_pl, kx_cmp, kx_oF, kx_eqN, kx_nil, kx_c1, kx_ft, kx_aI, kx_aL, kx_aR, kx_ln, Nat.reduceAdd, Option.toList, List.cons_append, List.nil_append, cf10_0, cf0_0, cf10_8, cf1_6, cf1_7, cf1_4]
          repeat (simp only [hk64, h64, h65, h70, nI_1, nI_add, ks_eq, ks_ss, h64', h65', al0]; try dsimp only [kx_wp, kx_step, kx_lI, kx_lL, kx_lA, kx_gl, kx_pI, kx_pL, kx_pR, kx_pA, kx_pV, kx_s1, kx_s2, kx_sl, kx_pre, kx_c2, kx_pl, kx_cmp, kx_oF, kx_eqN, kx_nil, kx_c1, kx_ft, kx_aI, kx_aL, kx_aR, kx_ln, Nat.reduceAdd, Option.toList, List.cons_append, List.nil_append, cf10_0, cf0_0, cf10_8, cf1_6, cf1_7, cf1_4])
          repeat' apply And.intro
          all_goals try (first | with_reducible assumption | (with_reducible refine ck_nzI ?_; simp; done) | (with_reducible refine ck_nzL ?_; simp; done) | (with_reducible refine vp_in_nI ?_ ?_ <;> first | omega | decide) | (with_reducible refine Nat.le_of_ble_eq_true ?_; rfl) | omega | exact Or.inl trivial | exact Or.inr trivial | exact Or.inl rfl | exact Or.inr rfl)
          have h0 := fun a => loop77 k 0 S0 _ _ a (by omega) (show cF (ck_mns FF cl 0) V T Q Fo St Al _ (L 116 c) c (mi + 0) by rw [hm0]; exact hF0) (by rw [hm0]; exact h94)
          rw [hm0, e51, e52, Nat.add_zero] at h0
          rw [← hP5] at h0
          exact h0 _

set_option maxRecDepth 100000 in
set_option maxHeartbeats 4000000 in
theorem ct_X10_foretold_1 (l : Launch) (G : kx_G) {P : kx_P} {sz : Nat} {M : Nat → Int32} {A : Nat → Nat → Int32} {L : Nat → Nat → Int64} {cl mi sd se : Nat} {bl : Nat → Nat} (hst : cR_st P M A cl se bl) (hdy : cR_dy P A L cl se sz bl (fun _ => mi)) (hm : cR_m M A L cl mi sd) {c k : Nat} (hc : c < cl) (hk1 : 1 ≤ k) (hk2 : k ≤ 3000) (hmk : mi + k ≤ 100000)  : kx_Mn l G sX10_foretold 9 0 0 [.ref 64, .int (nI c), .int (nI k), .int (1)] P sz (fun r P2 s2 => r = some (.int (ck_seenV (ck_mns (ck_fS M A L cl c) cl k) c 1)) ∧ s2 = sz ∧ cR_af P P2 (M, A, L) cl mi se sz bl) := by
  have hcl : cl ≤ 8 := hm.2.2.1
  have haf := fun S1 C1 d gh => cR_af_g hst hdy hm hc S1 C1 d gh
  obtain ⟨⟨K, h64, -, -, hK7, -, -⟩, ⟨Al, h65, al0, al1, al3⟩, p66, -, -, h69, ⟨gv, gd, gh, Cg, h70⟩, -, -, -, -, -, -, -, -, -, -, -, -, -, -, p1, -⟩ := id hst
  rw [hm.2.1] at hK7
  rw [hm.2.2.2.1] at al0
  obtain ⟨V, T, Q, Fo, St, S0, C, Kp, c1, c2, c3, c4, c5, c6⟩ := hdy.2.1 c hc
  have b1 := hdy.1.w hcl hc
  have b2 := hdy.1.c hcl hc
  have b3 := hdy.1.wc hcl hc hc
  have H : cx_R P 70 (bl c) V T Q Fo St Al (A 94) := ⟨b1.2.1, by decide, by omega, by decide, by decide, c1.1, c1.2.1, c1.2.2.1, c1.2.2.2.1, c1.2.2.2.2.1, h65, p66, p1⟩
  obtain ⟨hF0, h94⟩ := cF_0 (P := P) (C1 := upd (upd (upd (upd (upd (upd (upd Cg 4 (C 4)) 5 (C 5)) 6 (C 6)) 7 (C 7)) 8 (C 8)) 9 (C 9)) 10 (C 10)) hm hc c4 c5 al1 al3 (Or.inr ⟨Cg, rfl⟩)
  have hms : ∀ n, ck_mns (ck_fS M A L cl c) cl (n + 1) = ck_mn (ck_mns (ck_fS M A L cl c) cl n) cl := fun _ => rfl
  have hm0 : ck_mns (ck_fS M A L cl c) cl 0 = ck_fS M A L cl c := rfl
  have e51 : (ck_fS M A L cl c).1 51 = 0 := rfl
  have e52 : (ck_fS M A L cl c).1 52 = 0 := rfl
  have hk64 : ∀ S d C, cW P 70 (bl c) S d gh C 64 = kO 10 (kf (cr10 (cR_sv (bl 16))) K) := fun S d C => (cW_o (by decide) (by omega)).trans h64
  have hb9 := ct_X1_become l G (sz := sz) (b := 70) (c := bl (8 + c)) h70 c2 (by omega) (by decide)
  obtain ⟨P5, hP5⟩ : ∃ P5, P5 = cW P 70 (bl c) S0 (L 116 c) gh (upd (upd (upd (upd (upd (upd (upd Cg 4 (C 4)) 5 (C 5)) 6 (C 6)) 7 (C 7)) 8 (C 8)) 9 (C 9)) 10 (C 10)) := ⟨_, rfl⟩
  have hw5 : kx_set P 70 (kO 1 (kf (cr1 (.ref (bl c)) (L 116 c) gh) (upd (upd (upd (upd (upd (upd (upd Cg 4 (C 4)) 5 (C 5)) 6 (C 6)) 7 (C 7)) 8 (C 8)) 9 (C 9)) 10 (C 10)))) = P5 := by
    rw [hP5]; unfold cW; rw [ks_id (P := P) c1.2.2.2.2.2]
  rw [hw5] at hb9
  have h65' : P5 65 = kO 0 (kf cr0 Al) := by rw [hP5, cW_o (by decide) (by omega)]; exact h65
  have h64' : P5 64 = kO 10 (kf (cr10 (cR_sv (bl 16))) K) := by rw [hP5]; exact hk64 _ _ _
  generalize ck_fS M A L cl c = FF at hF0 h94 hms hm0 e51 e52
  refine kx_mkn kx_tab kxLok_X10 (ini := false) [some (.ref 64), some (.int (nI c)), some (.int (nI k)), some (.int (1)), none, none, none, none, none, none] ⟨by decide, rfl, by decide, by decide⟩ (fun _ _ _ h => ⟨_, h.1⟩) rfl rfl (fun g hB hC hN => ?_)
  have loop77 : ∀ (n9 : Nat) (n : Nat) (S1 C1 : Nat → Int32) (d : Int64) (a : Option Value), n + n9 = k → cF (ck_mns FF cl n) V T Q Fo St Al C1 d c (mi + n) → (ck_mns FF cl n).2.1 94 = A 94 → g 77 [some (.ref 64), some (.int (nI c)), some (.int (nI k)), some (.int 1), some (.ref (bl (8 + c))), some (.int (nI (mi + k))), some (.int ((ck_mns FF cl n).1 51)), some (.int ((ck_mns FF cl n).1 52)), some (.int (nI (mi + n))), a] [] (cW P 70 (bl c) S1 d gh C1) sz 0 0 := by
    intro n9
    induction n9 with
    | zero =>
      intro n S1 C1 d a hnk hF h94n
      · obtain rfl : n = k := by omega
        have hres : ck_seenV (ck_mns FF cl n) c 1 = C1 6 := hF.2.2.2.2.2.2.2.2.2.2.2.2.1.symm
        refine hB bX10_foretold_77 _ _ _ _ _ _ _ kX10_foretold_77 ?_
        dsimp only [bX10_foretold_77, kx_wp, kx_step, kx_lI, kx_lL, kx_lA, kx_gl, kx_pI, kx_pL, kx_pR, kx_pA, kx_pV, kx_s1, kx_s2, kx_sl, kx_pre, kx_c2, kx_pl, kx_cmp, kx_oF, kx_eqN, kx_nil, kx_c1, kx_ft, kx_aI, kx_aL, kx_aR, kx_ln, Nat.reduceAdd, Option.toList, List.cons_append, List.nil_append, cf10_0, cf0_0, cf10_8, cf1_6, cf1_7, cf1_4]
        repeat (simp only [hk64, h64, h65, h70, nI_1, nI_add, ks_eq, ks_ss]; try dsimp only [kx_wp, kx_step, kx_lI, kx_lL, kx_lA, kx_gl, kx_pI, kx_pL, kx_pR, kx_pA, kx_pV, kx_s1, kx_s2, kx_sl, kx_pre, kx_c2, kx_pl, kx_cmp, kx_oF, kx_eqN, kx_nil, kx_c1, kx_ft, kx_aI, kx_aL, kx_aR, kx_ln, Nat.reduceAdd, Option.toList, List.cons_append, List.nil_append, cf10_0, cf0_0, cf10_8, cf1_6, cf1_7, cf1_4])
        repeat' apply And.intro
        all_goals try (first | with_reducible assumption | (with_reducible refine ck_nzI ?_; simp; done) | (with_reducible refine ck_nzL ?_; simp; done) | (with_reducible refine vp_in_nI ?_ ?_ <;> first | omega | decide) | (with_reducible refine Nat.le_of_ble_eq_true ?_; rfl) | omega | exact Or.inl trivial | exact Or.inr trivial | exact Or.inl rfl | exact Or.inr rfl)
        · intro zc81
          with_reducible first | have ze81 := Int32.not_lt.mpr zc81 | have ze81 := zc81
          refine hB bX10_foretold_134 _ _ _ _ _ _ _ kX10_foretold_134 ?_
          dsimp only [bX10_foretold_134, kx_wp, kx_step, kx_lI, kx_lL, kx_lA, kx_gl, kx_pI, kx_pL, kx_pR, kx_pA, kx_pV, kx_s1, kx_s2, kx_sl, kx_pre, kx_c2, kx_pl, kx_cmp, kx_oF, kx_eqN, kx_nil, kx_c1, kx_ft, kx_aI, kx_aL, kx_aR, kx_ln, Nat.reduceAdd, Option.toList, List.cons_append, List.nil_append, cf10_0, cf0_0, cf10_8, cf1_6, cf1_7, cf1_4]
          repeat (simp only [hk64, h64, h65, h70, nI_1, nI_add, ks_eq, ks_ss]; try dsimp only [kx_wp, kx_step, kx_lI, kx_lL, kx_lA, kx_gl, kx_pI, kx_pL, kx_pR, kx_pA, kx_pV, kx_s1, kx_s2, kx_sl, kx_pre, kx_c2, kx_pl, kx_cmp, kx_oF, kx_eqN, kx_nil, kx_c1, kx_ft, kx_aI, kx_aL, kx_aR, kx_ln, Nat.reduceAdd, Option.toList, List.cons_append, List.nil_append, cf10_0, cf0_0, cf10_8, cf1_6, cf1_7, cf1_4])
          repeat' apply And.intro
          all_goals try (first | with_reducible assumption | (with_reducible refine ck_nzI ?_; simp; done) | (with_reducible refine ck_nzL ?_; simp; done) | (with_reducible refine vp_in_nI ?_ ?_ <;> first | omega | decide) | (with_reducible refine Nat.le_of_ble_eq_true ?_; rfl) | omega | exact Or.inl trivial | exact Or.inr trivial | exact Or.inl rfl | exact Or.inr rfl)
          · exact fun zc135 => absurd zc135 (by decide)
          refine kx_sw (ws := [172, 182, 190, 198, 206, 214]) rfl ?_
          dsimp only [kx_swl]
          refine ⟨fun zc135_0 => absurd zc135_0 (by decide), fun zc135_1 => ?_, fun zc135_2 => absurd zc135_2 (by decide), fun zc135_3 => absurd zc135_3 (by decide), fun zc135_4 => absurd zc135_4 (by decide), fun zc135_5 => absurd zc135_5 (by decide), trivial⟩
          refine hB bX10_foretold_182 _ _ _ _ _ _ _ kX10_foretold_182 ?_
          dsimp only [bX10_foretold_182, kx_wp, kx_step, kx_lI, kx_lL, kx_lA, kx_gl, kx_pI, kx_pL, kx_pR, kx_pA, kx_pV, kx_s1, kx_s2, kx_sl, kx_pre, kx_c2, kx_pl, kx_cmp, kx_oF, kx_eqN, kx_nil, kx_c1, kx_ft, kx_aI, kx_aL, kx_aR, kx_ln, Nat.reduceAdd, Option.toList, List.cons_append, List.nil_append, cf10_0, cf0_0, cf10_8, cf1_6, cf1_7, cf1_4]
          repeat (simp only [hk64, h64, h65, h70, nI_1, nI_add, ks_eq, ks_ss, cW_c]; try dsimp only [kx_wp, kx_step, kx_lI, kx_lL, kx_lA, kx_gl, kx_pI, kx_pL, kx_pR, kx_pA, kx_pV, kx_s1, kx_s2, kx_sl, kx_pre, kx_c2, kx_pl, kx_cmp, kx_oF, kx_eqN, kx_nil, kx_c1, kx_ft, kx_aI, kx_aL, kx_aR, kx_ln, Nat.reduceAdd, Option.toList, List.cons_append, List.nil_append, cf10_0, cf0_0, cf10_8, cf1_6, cf1_7, cf1_4])
          all_goals (repeat' apply And.intro)
          all_goals ((try clear hB hC hN); first | exact True.intro | rfl | (rw [hres]; done) | exact haf _ _ _ _ | decide)
        · intro zc81
          first | exact absurd rfl zc81 | exact absurd zc81 (by decide) | exact absurd (by decide) zc81 | (exfalso; first | exact absurd ((nI_ltI (a := k) (b := 1) (by omega) (by omega)).mp zc9) (by omega) | exact absurd ((nI_ltI (a := 3000) (b := k) (by omega) (by omega)).mp zc16) (by omega) | exact absurd zc20 (by decide) | exact absurd zc26 (by decide) | exact absurd ((nI_leI (a := mi + k) (b := mi + n) (by omega) (by omega)).mp zc81) (by omega) | exact absurd ((nI_leI (a := mi + k) (b := mi + n) (by omega) (by omega)).mpr (by omega)) zc81 | exact absurd ((nI_leI (a := mi + n) (b := mi + n) (by omega) (by omega)).mpr (by omega)) zc81) | (exfalso; simp_all; done)
    | succ n9 ih =>
      intro n S1 C1 d a hnk hF h94n
      · have hk2 : n < k := by omega
        obtain ⟨lf, a9, mo, hf, hd9, ha9, h6, hlf, hmo, hmo2, hstep⟩ := cF_s hF hc hcl (show mi + n < 100000 by omega)
        obtain ⟨S2, d2, C2, he⟩ : ∃ S2 d2 C2, cx_gm V T Q (fun j => (ck_mns FF cl n).2.1 106 (400 * c + j)) (fun j => (ck_mns FF cl n).2.1 107 (400 * c + j)) S1 C1 ((ck_mns FF cl n).2.1 105 c).toNatClampNeg (Al 1) lf a9 mo = (S2, d2, C2) := ⟨_, _, _, rfl⟩
        obtain ⟨hF2, h942, h52, hle, hgt⟩ := hstep S1 S2 d2 C2 he
        rw [← hms] at hF2 h942 h52 hle hgt
        rw [h94n] at hmo h942
        have hg9 := ct_X1_goMinute l G (sz := sz) H (S := S1) (C := C1) (d := d) (h := gh) hf (mi := mi + n) (by omega) hd9 ha9 h6 hlf hmo hmo2
        rw [he] at hg9
        dsimp only at hg9
        have hr9 := ct_X1_heardStrokes l G (sz := sz) (c := 70) (cW_c (P := P) (w := bl c) (S := S2) (C := C2) (d := d2) (h := gh))
        have hk65 : cW P 70 (bl c) S1 d gh C1 65 = kO 0 (kf cr0 Al) := (cW_o (by decide) (by omega)).trans h65
        refine hB bX10_foretold_77 _ _ _ _ _ _ _ kX10_foretold_77 ?_
        dsimp only [bX10_foretold_77, kx_wp, kx_step, kx_lI, kx_lL, kx_lA, kx_gl, kx_pI, kx_pL, kx_pR, kx_pA, kx_pV, kx_s1, kx_s2, kx_sl, kx_pre, kx_c2, kx_pl, kx_cmp, kx_oF, kx_eqN, kx_nil, kx_c1, kx_ft, kx_aI, kx_aL, kx_aR, kx_ln, Nat.reduceAdd, Option.toList, List.cons_append, List.nil_append, cf10_0, cf0_0, cf10_8, cf1_6, cf1_7, cf1_4]
        repeat (simp only [hk64, h64, h65, h70, nI_1, nI_add, ks_eq, ks_ss]; try dsimp only [kx_wp, kx_step, kx_lI, kx_lL, kx_lA, kx_gl, kx_pI, kx_pL, kx_pR, kx_pA, kx_pV, kx_s1, kx_s2, kx_sl, kx_pre, kx_c2, kx_pl, kx_cmp, kx_oF, kx_eqN, kx_nil, kx_c1, kx_ft, kx_aI, kx_aL, kx_aR, kx_ln, Nat.reduceAdd, Option.toList, List.cons_append, List.nil_append, cf10_0, cf0_0, cf10_8, cf1_6, cf1_7, cf1_4])
        repeat' apply And.intro
        all_goals try (first | with_reducible assumption | (with_reducible refine ck_nzI ?_; simp; done) | (with_reducible refine ck_nzL ?_; simp; done) | (with_reducible refine vp_in_nI ?_ ?_ <;> first | omega | decide) | (with_reducible refine Nat.le_of_ble_eq_true ?_; rfl) | omega | exact Or.inl trivial | exact Or.inr trivial | exact Or.inl rfl | exact Or.inr rfl)
        · intro zc81
          first | exact absurd rfl zc81 | exact absurd zc81 (by decide) | exact absurd (by decide) zc81 | (exfalso; first | exact absurd ((nI_ltI (a := k) (b := 1) (by omega) (by omega)).mp zc9) (by omega) | exact absurd ((nI_ltI (a := 3000) (b := k) (by omega) (by omega)).mp zc16) (by omega) | exact absurd zc20 (by decide) | exact absurd zc26 (by decide) | exact absurd ((nI_leI (a := mi + k) (b := mi + n) (by omega) (by omega)).mp zc81) (by omega) | exact absurd ((nI_leI (a := mi + k) (b := mi + n) (by omega) (by omega)).mpr (by omega)) zc81 | exact absurd ((nI_leI (a := mi + n) (b := mi + n) (by omega) (by omega)).mpr (by omega)) zc81) | (exfalso; simp_all; done)
        · intro zc81
          with_reducible first | have ze81 := Int32.not_le.mp zc81 | have ze81 := zc81
          refine hB bX10_foretold_84 _ _ _ _ _ _ _ kX10_foretold_84 ?_
          dsimp only [bX10_foretold_84, kx_wp, kx_step, kx_lI, kx_lL, kx_lA, kx_gl, kx_pI, kx_pL, kx_pR, kx_pA, kx_pV, kx_s1, kx_s2, kx_sl, kx_pre, kx_c2, kx_pl, kx_cmp, kx_oF, kx_eqN, kx_nil, kx_c1, kx_ft, kx_aI, kx_aL, kx_aR, kx_ln, Nat.reduceAdd, Option.toList, List.cons_append, List.nil_append, cf10_0, cf0_0, cf10_8, cf1_6, cf1_7, cf1_4]
          repeat (simp only [hk64, h64, h65, h70, nI_1, nI_add, ks_eq, ks_ss]; try dsimp only [kx_wp, kx_step, kx_lI, kx_lL, kx_lA, kx_gl, kx_pI, kx_pL, kx_pR, kx_pA, kx_pV, kx_s1, kx_s2, kx_sl, kx_pre, kx_c2, kx_pl, kx_cmp, kx_oF, kx_eqN, kx_nil, kx_c1, kx_ft, kx_aI, kx_aL, kx_aR, kx_ln, Nat.reduceAdd, Option.toList, List.cons_append, List.nil_append, cf10_0, cf0_0, cf10_8, cf1_6, cf1_7, cf1_4])
          repeat' apply And.intro
          all_goals try (first | with_reducible assumption | (with_reducible refine ck_nzI ?_; simp; done) | (with_reducible refine ck_nzL ?_; simp; done) | (with_reducible refine vp_in_nI ?_ ?_ <;> first | omega | decide) | (with_reducible refine Nat.le_of_ble_eq_true ?_; rfl) | omega | exact Or.inl trivial | exact Or.inr trivial | exact Or.inl rfl | exact Or.inr rfl)
          refine hC.1 330 _ _ _ _ _ _ _ 1 _ _ _ _ _ _ _ _ _ _ _ _ lX10_330 (hg9) ⟨by decide, rfl⟩ (cW_c) rfl rfl (Nat.le_of_ble_eq_true rfl) (by first | decide | omega) (by decide) (by omega) (by omega) dX10_foretold_94 ?_
          refine hB bX10_foretold_97 _ _ _ _ _ _ _ kX10_foretold_97 ?_
          dsimp only [bX10_foretold_97, kx_wp, kx_step, kx_lI, kx_lL, kx_lA, kx_gl, kx_pI, kx_pL, kx_pR, kx_pA, kx_pV, kx_s1, kx_s2, kx_sl, kx_pre, kx_c2, kx_pl, kx_cmp, kx_oF, kx_eqN, kx_nil, kx_c1, kx_ft, kx_aI, kx_aL, kx_aR, kx_ln, Nat.reduceAdd, Option.toList, List.cons_append, List.nil_append, cf10_0, cf0_0, cf10_8, cf1_6, cf1_7, cf1_4]
          repeat (simp only [hk64, h64, h65, h70, nI_1, nI_add, ks_eq, ks_ss]; try dsimp only [kx_wp, kx_step, kx_lI, kx_lL, kx_lA, kx_gl, kx_pI, kx_pL, kx_pR, kx_pA, kx_pV, kx_s1, kx_s2, kx_sl, kx_pre, kx_c2, kx_pl, kx_cmp, kx_oF, kx_eqN, kx_nil, kx_c1, kx_ft, kx_aI, kx_aL, kx_aR, kx_ln, Nat.reduceAdd, Option.toList, List.cons_append, List.nil_append, cf10_0, cf0_0, cf10_8, cf1_6, cf1_7, cf1_4])
          repeat' apply And.intro
          all_goals try (first | with_reducible assumption | (with_reducible refine ck_nzI ?_; simp; done) | (with_reducible refine ck_nzL ?_; simp; done) | (with_reducible refine vp_in_nI ?_ ?_ <;> first | omega | decide) | (with_reducible refine Nat.le_of_ble_eq_true ?_; rfl) | omega | exact Or.inl trivial | exact Or.inr trivial | exact Or.inl rfl | exact Or.inr rfl)
          refine hC.1 334 _ _ _ _ _ _ _ 1 _ _ _ _ _ _ _ _ _ _ _ _ lX10_334 (hr9) ⟨by decide, rfl⟩ (cW_c) rfl rfl (Nat.le_of_ble_eq_true rfl) (by first | decide | omega) (by decide) (by omega) (by omega) dX10_foretold_101 ?_
          refine hB bX10_foretold_104 _ _ _ _ _ _ _ kX10_foretold_104 ?_
          dsimp only [bX10_foretold_104, kx_wp, kx_step, kx_lI, kx_lL, kx_lA, kx_gl, kx_pI, kx_pL, kx_pR, kx_pA, kx_pV, kx_s1, kx_s2, kx_sl, kx_pre, kx_c2, kx_pl, kx_cmp, kx_oF, kx_eqN, kx_nil, kx_c1, kx_ft, kx_aI, kx_aL, kx_aR, kx_ln, Nat.reduceAdd, Option.toList, List.cons_append, List.nil_append, cf10_0, cf0_0, cf10_8, cf1_6, cf1_7, cf1_4]
          repeat (simp only [hk64, h64, h65, h70, nI_1, nI_add, ks_eq, ks_ss]; try dsimp only [kx_wp, kx_step, kx_lI, kx_lL, kx_lA, kx_gl, kx_pI, kx_pL, kx_pR, kx_pA, kx_pV, kx_s1, kx_s2, kx_sl, kx_pre, kx_c2, kx_pl, kx_cmp, kx_oF, kx_eqN, kx_nil, kx_c1, kx_ft, kx_aI, kx_aL, kx_aR, kx_ln, Nat.reduceAdd, Option.toList, List.cons_append, List.nil_append, cf10_0, cf0_0, cf10_8, cf1_6, cf1_7, cf1_4])
          repeat' apply And.intro
          all_goals try (first | with_reducible assumption | (with_reducible refine ck_nzI ?_; simp; done) | (with_reducible refine ck_nzL ?_; simp; done) | (with_reducible refine vp_in_nI ?_ ?_ <;> first | omega | decide) | (with_reducible refine Nat.le_of_ble_eq_true ?_; rfl) | omega | exact Or.inl trivial | exact Or.inr trivial | exact Or.inl rfl | exact Or.inr rfl)
          · intro zc110
            with_reducible first | have ze110 := Int32.not_lt.mpr zc110 | have ze110 := zc110
            refine hB bX10_foretold_117 _ _ _ _ _ _ _ kX10_foretold_117 ?_
            dsimp only [bX10_foretold_117, kx_wp, kx_step, kx_lI, kx_lL, kx_lA, kx_gl, kx_pI, kx_pL, kx_pR, kx_pA, kx_pV, kx_s1, kx_s2, kx_sl, kx_pre, kx_c2, kx_pl, kx_cmp, kx_oF, kx_eqN, kx_nil, kx_c1, kx_ft, kx_aI, kx_aL, kx_aR, kx_ln, Nat.reduceAdd, Option.toList, List.cons_append, List.nil_append, cf10_0, cf0_0, cf10_8, cf1_6, cf1_7, cf1_4]
            repeat (simp only [hk64, h64, h65, h70, nI_1, nI_add, ks_eq, ks_ss]; try dsimp only [kx_wp, kx_step, kx_lI, kx_lL, kx_lA, kx_gl, kx_pI, kx_pL, kx_pR, kx_pA, kx_pV, kx_s1, kx_s2, kx_sl, kx_pre, kx_c2, kx_pl, kx_cmp, kx_oF, kx_eqN, kx_nil, kx_c1, kx_ft, kx_aI, kx_aL, kx_aR, kx_ln, Nat.reduceAdd, Option.toList, List.cons_append, List.nil_append, cf10_0, cf0_0, cf10_8, cf1_6, cf1_7, cf1_4])
            repeat' apply And.intro
            all_goals try (first | with_reducible assumption | (with_reducible refine ck_nzI ?_; simp; done) | (with_reducible refine ck_nzL ?_; simp; done) | (with_reducible refine vp_in_nI ?_ ?_ <;> first | omega | decide) | (with_reducible refine Nat.le_of_ble_eq_true ?_; rfl) | omega | exact Or.inl trivial | exact Or.inr trivial | exact Or.inl rfl | exact Or.inr rfl)
            refine hB bX10_foretold_118 _ _ _ _ _ _ _ kX10_foretold_118 ?_
            dsimp only [bX10_foretold_118, kx_wp, kx_step, kx_lI, kx_lL, kx_lA, kx_gl, kx_pI, kx_pL, kx_pR, kx_pA, kx_pV, kx_s1, kx_s2, kx_sl, kx_pre, kx_c2, kx_pl, kx_cmp, kx_oF, kx_eqN, kx_nil, kx_c1, kx_ft, kx_aI, kx_aL, kx_aR, kx_ln, Nat.reduceAdd, Option.toList, List.cons_append, List.nil_append, cf10_0, cf0_0, cf10_8, cf1_6, cf1_7, cf1_4]
            repeat (simp only [hk64, h64, h65, h70, nI_1, nI_add, ks_eq, ks_ss]; try dsimp only [kx_wp, kx_step, kx_lI, kx_lL, kx_lA, kx_gl, kx_pI, kx_pL, kx_pR, kx_pA, kx_pV, kx_s1, kx_s2, kx_sl, kx_pre, kx_c2, kx_pl, kx_cmp, kx_oF, kx_eqN, kx_nil, kx_c1, kx_ft, kx_aI, kx_aL, kx_aR, kx_ln, Nat.reduceAdd, Option.toList, List.cons_append, List.nil_append, cf10_0, cf0_0, cf10_8, cf1_6, cf1_7, cf1_4])
            repeat' apply And.intro
            all_goals try (first | with_reducible assumption | (with_reducible refine ck_nzI ?_; simp; done) | (with_reducible refine ck_nzL ?_; simp; done) | (with_reducible refine vp_in_nI ?_ ?_ <;> first | omega | decide) | (with_reducible refine Nat.le_of_ble_eq_true ?_; rfl) | omega | exact Or.inl trivial | exact Or.inr trivial | exact Or.inl rfl | exact Or.inr rfl)
            have hih := fun a => ih (n + 1) S2 C2 d2 a (by omega) hF2 h942
            rw [h52, show mi + (n + 1) = mi + n + 1 from rfl] at hih
            first | (rw [hle zc110] at hih; exact hih _) | (rw [hgt zc110] at hih; exact hih _)
          · intro zc110
            with_reducible first | have ze110 := Int32.not_le.mp zc110 | have ze110 := zc110
            refine hB bX10_foretold_113 _ _ _ _ _ _ _ kX10_foretold_113 ?_
            dsimp only [bX10_foretold_113, kx_wp, kx_step, kx_lI, kx_lL, kx_lA, kx_gl, kx_pI, kx_pL, kx_pR, kx_pA, kx_pV, kx_s1, kx_s2, kx_sl, kx_pre, kx_c2, kx_pl, kx_cmp, kx_oF, kx_eqN, kx_nil, kx_c1, kx_ft, kx_aI, kx_aL, kx_aR, kx_ln, Nat.reduceAdd, Option.toList, List.cons_append, List.nil_append, cf10_0, cf0_0, cf10_8, cf1_6, cf1_7, cf1_4]
            repeat (simp only [hk64, h64, h65, h70, nI_1, nI_add, ks_eq, ks_ss]; try dsimp only [kx_wp, kx_step, kx_lI, kx_lL, kx_lA, kx_gl, kx_pI, kx_pL, kx_pR, kx_pA, kx_pV, kx_s1, kx_s2, kx_sl, kx_pre, kx_c2, kx_pl, kx_cmp, kx_oF, kx_eqN, kx_nil, kx_c1, kx_ft, kx_aI, kx_aL, kx_aR, kx_ln, Nat.reduceAdd, Option.toList, List.cons_append, List.nil_append, cf10_0, cf0_0, cf10_8, cf1_6, cf1_7, cf1_4])
            repeat' apply And.intro
            all_goals try (first | with_reducible assumption | (with_reducible refine ck_nzI ?_; simp; done) | (with_reducible refine ck_nzL ?_; simp; done) | (with_reducible refine vp_in_nI ?_ ?_ <;> first | omega | decide) | (with_reducible refine Nat.le_of_ble_eq_true ?_; rfl) | omega | exact Or.inl trivial | exact Or.inr trivial | exact Or.inl rfl | exact Or.inr rfl)
            refine hB bX10_foretold_118 _ _ _ _ _ _ _ kX10_foretold_118 ?_
            dsimp only [bX10_foretold_118, kx_wp, kx_step, kx_lI, kx_lL, kx_lA, kx_gl, kx_pI, kx_pL, kx_pR, kx_pA, kx_pV, kx_s1, kx_s2, kx_sl, kx_pre, kx_c2, kx_pl, kx_cmp, kx_oF, kx_eqN, kx_nil, kx_c1, kx_ft, kx_aI, kx_aL, kx_aR, kx_ln, Nat.reduceAdd, Option.toList, List.cons_append, List.nil_append, cf10_0, cf0_0, cf10_8, cf1_6, cf1_7, cf1_4]
            repeat (simp only [hk64, h64, h65, h70, nI_1, nI_add, ks_eq, ks_ss]; try dsimp only [kx_wp, kx_step, kx_lI, kx_lL, kx_lA, kx_gl, kx_pI, kx_pL, kx_pR, kx_pA, kx_pV, kx_s1, kx_s2, kx_sl, kx_pre, kx_c2, kx_pl, kx_cmp, kx_oF, kx_eqN, kx_nil, kx_c1, kx_ft, kx_aI, kx_aL, kx_aR, kx_ln, Nat.reduceAdd, Option.toList, List.cons_append, List.nil_append, cf10_0, cf0_0, cf10_8, cf1_6, cf1_7, cf1_4])
            repeat' apply And.intro
            all_goals try (first | with_reducible assumption | (with_reducible refine ck_nzI ?_; simp; done) | (with_reducible refine ck_nzL ?_; simp; done) | (with_reducible refine vp_in_nI ?_ ?_ <;> first | omega | decide) | (with_reducible refine Nat.le_of_ble_eq_true ?_; rfl) | omega | exact Or.inl trivial | exact Or.inr trivial | exact Or.inl rfl | exact Or.inr rfl)
            have hih := fun a => ih (n + 1) S2 C2 d2 a (by omega) hF2 h942
            rw [h52, show mi + (n + 1) = mi + n + 1 from rfl] at hih
            first | (rw [hle zc110] at hih; exact hih _) | (rw [hgt zc110] at hih; exact hih _)
  refine hB bX10_foretold_0 _ _ _ _ _ _ _ kX10_foretold_0 ?_
  dsimp only [bX10_foretold_0, kx_wp, kx_step, kx_lI, kx_lL, kx_lA, kx_gl, kx_pI, kx_pL, kx_pR, kx_pA, kx_pV, kx_s1, kx_s2, kx_sl, kx_pre, kx_c2, kx_pl, kx_cmp, kx_oF, kx_eqN, kx_nil, kx_c1, kx_ft, kx_aI, kx_aL, kx_aR, kx_ln, Nat.reduceAdd, Option.toList, List.cons_append, List.nil_append, cf10_0, cf0_0, cf10_8, cf1_6, cf1_7, cf1_4]
  repeat (simp only [hk64, h64, h65, h70, nI_1, nI_add, ks_eq, ks_ss]; try dsimp only [kx_wp, kx_step, kx_lI, kx_lL, kx_lA, kx_gl, kx_pI, kx_pL, kx_pR, kx_pA, kx_pV, kx_s1, kx_s2, kx_sl, kx_pre, kx_c2, kx_pl, kx_cmp, kx_oF, kx_eqN, kx_nil, kx_c1, kx_ft, kx_aI, kx_aL, kx_aR, kx_ln, Nat.reduceAdd, Option.toList, List.cons_append, List.nil_append, cf10_0, cf0_0, cf10_8, cf1_6, cf1_7, cf1_4])
  repeat' apply And.intro
  all_goals try (first | with_reducible assumption | (with_reducible refine ck_nzI ?_; simp; done) | (with_reducible refine ck_nzL ?_; simp; done) | (with_reducible refine vp_in_nI ?_ ?_ <;> first | omega | decide) | (with_reducible refine Nat.le_of_ble_eq_true ?_; rfl) | omega | exact Or.inl trivial | exact Or.inr trivial | exact Or.inl rfl | exact Or.inr rfl)
  refine hC.1 138 _ _ _ _ _ _ _ 10 _ _ _ _ _ _ _ _ _ _ _ _ lX10_138 (ct_X10_theClock l G h64 h69 hK7 hcl hc) ⟨by decide, rfl⟩ (h64) rfl rfl (Nat.le_of_ble_eq_true rfl) (by first | decide | omega) (by decide) (by omega) (by omega) dX10_foretold_2 ?_
  refine hB bX10_foretold_5 _ _ _ _ _ _ _ kX10_foretold_5 ?_
  dsimp only [bX10_foretold_5, kx_wp, kx_step, kx_lI, kx_lL, kx_lA, kx_gl, kx_pI, kx_pL, kx_pR, kx_pA, kx_pV, kx_s1, kx_s2, kx_sl, kx_pre, kx_c2, kx_pl, kx_cmp, kx_oF, kx_eqN, kx_nil, kx_c1, kx_ft, kx_aI, kx_aL, kx_aR, kx_ln, Nat.reduceAdd, Option.toList, List.cons_append, List.nil_append, cf10_0, cf0_0, cf10_8, cf1_6, cf1_7, cf1_4]
  repeat (simp only [hk64, h64, h65, h70, nI_1, nI_add, ks_eq, ks_ss]; try dsimp only [kx_wp, kx_step, kx_lI, kx_lL, kx_lA, kx_gl, kx_pI, kx_pL, kx_pR, kx_pA, kx_pV, kx_s1, kx_s2, kx_sl, kx_pre, kx_c2, kx_pl, kx_cmp, kx_oF, kx_eqN, kx_nil, kx_c1, kx_ft, kx_aI, kx_aL, kx_aR, kx_ln, Nat.reduceAdd, Option.toList, List.cons_append, List.nil_append, cf10_0, cf0_0, cf10_8, cf1_6, cf1_7, cf1_4])
  repeat' apply And.intro
  all_goals try (first | with_reducible assumption | (with_reducible refine ck_nzI ?_; simp; done) | (with_reducible refine ck_nzL ?_; simp; done) | (with_reducible refine vp_in_nI ?_ ?_ <;> first | omega | decide) | (with_reducible refine Nat.le_of_ble_eq_true ?_; rfl) | omega | exact Or.inl trivial | exact Or.inr trivial | exact Or.inl rfl | exact Or.inr rfl)
  · intro zc9
    first | exact absurd rfl zc9 | exact absurd zc9 (by decide) | exact absurd (by decide) zc9 | (exfalso; first | exact absurd ((nI_ltI (a := k) (b := 1) (by omega) (by omega)).mp zc9) (by omega) | exact absurd ((nI_ltI (a := 3000) (b := k) (by omega) (by omega)).mp zc16) (by omega) | exact absurd zc20 (by decide) | exact absurd zc26 (by decide) | exact absurd ((nI_leI (a := mi + k) (b := mi + n) (by omega) (by omega)).mp zc81) (by omega) | exact absurd ((nI_leI (a := mi + k) (b := mi + n) (by omega) (by omega)).mpr (by omega)) zc81 | exact absurd ((nI_leI (a := mi + n) (b := mi + n) (by omega) (by omega)).mpr (by omega)) zc81) | (exfalso; simp_all; done)
  · intro zc9
    with_reducible first | have ze9 := Int32.not_lt.mp zc9 | have ze9 := zc9
    refine hB bX10_foretold_12 _ _ _ _ _ _ _ kX10_foretold_12 ?_
    dsimp only [bX10_foretold_12, kx_wp, kx_step, kx_lI, kx_lL, kx_lA, kx_gl, kx_pI, kx_pL, kx_pR, kx_pA, kx_pV, kx_s1, kx_s2, kx_sl, kx_pre, kx_c2, kx_pl, kx_cmp, kx_oF, kx_eqN, kx_nil, kx_c1, kx_ft, kx_aI, kx_aL, kx_aR, kx_ln, Nat.reduceAdd, Option.toList, List.cons_append, List.nil_append, cf10_0, cf0_0, cf10_8, cf1_6, cf1_7, cf1_4]
    repeat (simp only [hk64, h64, h65, h70, nI_1, nI_add, ks_eq, ks_ss]; try dsimp only [kx_wp, kx_step, kx_lI, kx_lL, kx_lA, kx_gl, kx_pI, kx_pL, kx_pR, kx_pA, kx_pV, kx_s1, kx_s2, kx_sl, kx_pre, kx_c2, kx_pl, kx_cmp, kx_oF, kx_eqN, kx_nil, kx_c1, kx_ft, kx_aI, kx_aL, kx_aR, kx_ln, Nat.reduceAdd, Option.toList, List.cons_append, List.nil_append, cf10_0, cf0_0, cf10_8, cf1_6, cf1_7, cf1_4])
    repeat' apply And.intro
    all_goals try (first | with_reducible assumption | (with_reducible refine ck_nzI ?_; simp; done) | (with_reducible refine ck_nzL ?_; simp; done) | (with_reducible refine vp_in_nI ?_ ?_ <;> first | omega | decide) | (with_reducible refine Nat.le_of_ble_eq_true ?_; rfl) | omega | exact Or.inl trivial | exact Or.inr trivial | exact Or.inl rfl | exact Or.inr rfl)
    · intro zc16
      first | exact absurd rfl zc16 | exact absurd zc16 (by decide) | exact absurd (by decide) zc16 | (exfalso; first | exact absurd ((nI_ltI (a := k) (b := 1) (by omega) (by omega)).mp zc9) (by omega) | exact absurd ((nI_ltI (a := 3000) (b := k) (by omega) (by omega)).mp zc16) (by omega) | exact absurd zc20 (by decide) | exact absurd zc26 (by decide) | exact absurd ((nI_leI (a := mi + k) (b := mi + n) (by omega) (by omega)).mp zc81) (by omega) | exact absurd ((nI_leI (a := mi + k) (b := mi + n) (by omega) (by omega)).mpr (by omega)) zc81 | exact absurd ((nI_leI (a := mi + n) (b := mi + n) (by omega) (by omega)).mpr (by omega)) zc81) | (exfalso; simp_all; done)
    · intro zc16
      with_reducible first | have ze16 := Int32.not_lt.mp zc16 | have ze16 := zc16
      refine hB bX10_foretold_19 _ _ _ _ _ _ _ kX10_foretold_19 ?_
      dsimp only [bX10_foretold_19, kx_wp, kx_step, kx_lI, kx_lL, kx_lA, kx_gl, kx_pI, kx_pL, kx_pR, kx_pA, kx_pV, kx_s1, kx_s2, kx_sl, kx_pre, kx_c2, kx_pl, kx_cmp, kx_oF, kx_eqN, kx_nil, kx_c1, kx_ft, kx_aI, kx_aL, kx_aR, kx_ln, Nat.reduceAdd, Option.toList, List.cons_append, List.nil_append, cf10_0, cf0_0, cf10_8, cf1_6, cf1_7, cf1_4]
      repeat (simp only [hk64, h64, h65, h70, nI_1, nI_add, ks_eq, ks_ss]; try dsimp only [kx_wp, kx_step, kx_lI, kx_lL, kx_lA, kx_gl, kx_pI, kx_pL, kx_pR, kx_pA, kx_pV, kx_s1, kx_s2, kx_sl, kx_pre, kx_c2, kx_pl, kx_cmp, kx_oF, kx_eqN, kx_nil, kx_c1, kx_ft, kx_aI, kx_aL, kx_aR, kx_ln, Nat.reduceAdd, Option.toList, List.cons_append, List.nil_append, cf10_0, cf0_0, cf10_8, cf1_6, cf1_7, cf1_4])
      repeat' apply And.intro
      all_goals try (first | with_reducible assumption | (with_reducible refine ck_nzI ?_; simp; done) | (with_reducible refine ck_nzL ?_; simp; done) | (with_reducible refine vp_in_nI ?_ ?_ <;> first | omega | decide) | (with_reducible refine Nat.le_of_ble_eq_true ?_; rfl) | omega | exact Or.inl trivial | exact Or.inr trivial | exact Or.inl rfl | exact Or.inr rfl)
      · intro zc20
        first | exact absurd rfl zc20 | exact absurd zc20 (by decide) | exact absurd (by decide) zc20 | (exfalso; first | exact absurd ((nI_ltI (a := k) (b := 1) (by omega) (by omega)).mp zc9) (by omega) | exact absurd ((nI_ltI (a := 3000) (b := k) (by omega) (by omega)).mp zc16) (by omega) | exact absurd zc20 (by decide) | exact absurd zc26 (by decide) | exact absurd ((nI_leI (a := mi + k) (b := mi + n) (by omega) (by omega)).mp zc81) (by omega) | exact absurd ((nI_leI (a := mi + k) (b := mi + n) (by omega) (by omega)).mpr (by omega)) zc81 | exact absurd ((nI_leI (a := mi + n) (b := mi + n) (by omega) (by omega)).mpr (by omega)) zc81) | (exfalso; simp_all; done)
      · intro zc20
        with_reducible first | have ze20 := Int32.not_lt.mp zc20 | have ze20 := zc20
        refine hB bX10_foretold_23 _ _ _ _ _ _ _ kX10_foretold_23 ?_
        dsimp only [bX10_foretold_23, kx_wp, kx_step, kx_lI, kx_lL, kx_lA, kx_gl, kx_pI, kx_pL, kx_pR, kx_pA, kx_pV, kx_s1, kx_s2, kx_sl, kx_pre, kx_c2, kx_pl, kx_cmp, kx_oF, kx_eqN, kx_nil, kx_c1, kx_ft, kx_aI, kx_aL, kx_aR, kx_ln, Nat.reduceAdd, Option.toList, List.cons_append, List.nil_append, cf10_0, cf0_0, cf10_8, cf1_6, cf1_7, cf1_4]
        repeat (simp only [hk64, h64, h65, h70, nI_1, nI_add, ks_eq, ks_ss]; try dsimp only [kx_wp, kx_step, kx_lI, kx_lL, kx_lA, kx_gl, kx_pI, kx_pL, kx_pR, kx_pA, kx_pV, kx_s1, kx_s2, kx_sl, kx_pre, kx_c2, kx_pl, kx_cmp, kx_oF, kx_eqN, kx_nil, kx_c1, kx_ft, kx_aI, kx_aL, kx_aR, kx_ln, Nat.reduceAdd, Option.toList, List.cons_append, List.nil_append, cf10_0, cf0_0, cf10_8, cf1_6, cf1_7, cf1_4])
        repeat' apply And.intro
        all_goals try (first | with_reducible assumption | (with_reducible refine ck_nzI ?_; simp; done) | (with_reducible refine ck_nzL ?_; simp; done) | (with_reducible refine vp_in_nI ?_ ?_ <;> first | omega | decide) | (with_reducible refine Nat.le_of_ble_eq_true ?_; rfl) | omega | exact Or.inl trivial | exact Or.inr trivial | exact Or.inl rfl | exact Or.inr rfl)
        · intro zc26
          first | exact absurd rfl zc26 | exact absurd zc26 (by decide) | exact absurd (by decide) zc26 | (exfalso; first | exact absurd ((nI_ltI (a := k) (b := 1) (by omega) (by omega)).mp zc9) (by omega) | exact absurd ((nI_ltI (a := 3000) (b := k) (by omega) (by omega)).mp zc16) (by omega) | exact absurd zc20 (by decide) | exact absurd zc26 (by decide) | exact absurd ((nI_leI (a := mi + k) (b := mi + n) (by omega) (by omega)).mp zc81) (by omega) | exact absurd ((nI_leI (a := mi + k) (b := mi + n) (by omega) (by omega)).mpr (by omega)) zc81 | exact absurd ((nI_leI (a := mi + n) (b := mi + n) (by omega) (by omega)).mpr (by omega)) zc81) | (exfalso; simp_all; done)
        · intro zc26
          with_reducible first | have ze26 := Int32.not_lt.mp zc26 | have ze26 := zc26
          refine hB bX10_foretold_29 _ _ _ _ _ _ _ kX10_foretold_29 ?_
          dsimp only [bX10_foretold_29, kx_wp, kx_step, kx_lI, kx_lL, kx_lA, kx_gl, kx_pI, kx_pL, kx_pR, kx_pA, kx_pV, kx_s1, kx_s2, kx_sl, kx_pre, kx_c2, kx_pl, kx_cmp, kx_oF, kx_eqN, kx_nil, kx_c1, kx_ft, kx_aI, kx_aL, kx_aR, kx_ln, Nat.reduceAdd, Option.toList, List.cons_append, List.nil_append, cf10_0, cf0_0, cf10_8, cf1_6, cf1_7, cf1_4]
          repeat (simp only [hk64, h64, h65, h70, nI_1, nI_add, ks_eq, ks_ss]; try dsimp only [kx_wp, kx_step, kx_lI, kx_lL, kx_lA, kx_gl, kx_pI, kx_pL, kx_pR, kx_pA, kx_pV, kx_s1, kx_s2, kx_sl, kx_pre, kx_c2, kx_pl, kx_cmp, kx_oF, kx_eqN, kx_nil, kx_c1, kx_ft, kx_aI, kx_aL, kx_aR, kx_ln, Nat.reduceAdd, Option.toList, List.cons_append, List.nil_append, cf10_0, cf0_0, cf10_8, cf1_6, cf1_7, cf1_4])
          repeat' apply And.intro
          all_goals try (first | with_reducible assumption | (with_reducible refine ck_nzI ?_; simp; done) | (with_reducible refine ck_nzL ?_; simp; done) | (with_reducible refine vp_in_nI ?_ ?_ <;> first | omega | decide) | (with_reducible refine Nat.le_of_ble_eq_true ?_; rfl) | omega | exact Or.inl trivial | exact Or.inr trivial | exact Or.inl rfl | exact Or.inr rfl)
          refine hC.2.1 95 _ _ _ _ _ _ _ _ _ _ _ _ _ _ _ _ _ lX10_95 (ct_X10_need l G (b := 1) (by decide)) rfl rfl (Nat.le_of_ble_eq_true rfl) (by first | decide | omega) (by decide) (by omega) (by omega) dX10_foretold_34 ?_
          refine hB bX10_foretold_37 _ _ _ _ _ _ _ kX10_foretold_37 ?_
          dsimp only [bX10_foretold_37, kx_wp, kx_step, kx_lI, kx_lL, kx_lA, kx_gl, kx_pI, kx_pL, kx_pR, kx_pA, kx_pV, kx_s1, kx_s2, kx_sl, kx_pre, kx_c2, kx_pl, kx_cmp, kx_oF, kx_eqN, kx_nil, kx_c1, kx_ft, kx_aI, kx_aL, kx_aR, kx_ln, Nat.reduceAdd, Option.toList, List.cons_append, List.nil_append, cf10_0, cf0_0, cf10_8, cf1_6, cf1_7, cf1_4]
          repeat (simp only [hk64, h64, h65, h70, nI_1, nI_add, ks_eq, ks_ss, al0]; try dsimp only [kx_wp, kx_step, kx_lI, kx_lL, kx_lA, kx_gl, kx_pI, kx_pL, kx_pR, kx_pA, kx_pV, kx_s1, kx_s2, kx_sl, kx_pre, kx_c2, kx_pl, kx_cmp, kx_oF, kx_eqN, kx_nil, kx_c1, kx_ft, kx_aI, kx_aL, kx_aR, kx_ln, Nat.reduceAdd, Option.toList, List.cons_append, List.nil_append, cf10_0, cf0_0, cf10_8, cf1_6, cf1_7, cf1_4])
          repeat' apply And.intro
          all_goals try (first | with_reducible assumption | (with_reducible refine ck_nzI ?_; simp; done) | (with_reducible refine ck_nzL ?_; simp; done) | (with_reducible refine vp_in_nI ?_ ?_ <;> first | omega | decide) | (with_reducible refine Nat.le_of_ble_eq_true ?_; rfl) | omega | exact Or.inl trivial | exact Or.inr trivial | exact Or.inl rfl | exact Or.inr rfl)
          refine hC.2.1 132 _ _ _ _ _ _ _ _ _ _ _ _ _ _ _ _ _ lX10_132 (ct_X10_needMinute l G (m := nI (mi + k)) ((nI_leI (a := mi + k) (b := 100000) (by omega) (by omega)).mpr hmk)) rfl rfl (Nat.le_of_ble_eq_true rfl) (by first | decide | omega) (by decide) (by omega) (by omega) dX10_foretold_50 ?_
          refine hB bX10_foretold_53 _ _ _ _ _ _ _ kX10_foretold_53 ?_
          dsimp only [bX10_foretold_53, kx_wp, kx_step, kx_lI, kx_lL, kx_lA, kx_gl, kx_pI, kx_pL, kx_pR, kx_pA, kx_pV, kx_s1, kx_s2, kx_sl, kx_pre, kx_c2, kx_pl, kx_cmp, kx_oF, kx_eqN, kx_nil, kx_c1, kx_ft, kx_aI, kx_aL, kx_aR, kx_ln, Nat.reduceAdd, Option.toList, List.cons_append, List.nil_append, cf10_0, cf0_0, cf10_8, cf1_6, cf1_7, cf1_4]
          repeat (simp only [hk64, h64, h65, h70, nI_1, nI_add, ks_eq, ks_ss]; try dsimp only [kx_wp, kx_step, kx_lI, kx_lL, kx_lA, kx_gl, kx_pI, kx_pL, kx_pR, kx_pA, kx_pV, kx_s1, kx_s2, kx_sl, kx_pre, kx_c2, kx_pl, kx_cmp, kx_oF, kx_eqN, kx_nil, kx_c1, kx_ft, kx_aI, kx_aL, kx_aR, kx_ln, Nat.reduceAdd, Option.toList, List.cons_append, List.nil_append, cf10_0, cf0_0, cf10_8, cf1_6, cf1_7, cf1_4])
          repeat' apply And.intro
          all_goals try (first | with_reducible assumption | (with_reducible refine ck_nzI ?_; simp; done) | (with_reducible refine ck_nzL ?_; simp; done) | (with_reducible refine vp_in_nI ?_ ?_ <;> first | omega | decide) | (with_reducible refine Nat.le_of_ble_eq_true ?_; rfl) | omega | exact Or.inl trivial | exact Or.inr trivial | exact Or.inl rfl | exact Or.inr rfl)
          refine hC.1 326 _ _ _ _ _ _ _ 1 _ _ _ _ _ _ _ _ _ _ _ _ lX10_326 (hb9) ⟨by decide, rfl⟩ (h70) rfl rfl (Nat.le_of_ble_eq_true rfl) (by first | decide | omega) (by decide) (by omega) (by omega) dX10_foretold_59 ?_
          refine hB bX10_foretold_62 _ _ _ _ _ _ _ kX10_foretold_62 ?_
          dsimp only [bX10_foretold_62, kx_wp, kx_step, kx_lI, kx_lL, kx_lA, kx_gl, kx_pI, kx_pL, kx_pR, kx_pA, kx_pV, kx_s1, kx_s2, kx_sl, kx_pre, kx_c2, kx_pl, kx_cmp, kx_oF, kx_eqN, kx_nil, kx_c1, kx_ft, kx_aI, kx_aL, kx_aR, kx_ln, Nat.reduceAdd, Option.toList, List.cons_append, List.nil_append, cf10_0, cf0_0, cf10_8, cf1_6, cf1_7, cf1_4]
          repeat (simp only [hk64, h64, h65, h70, nI_1, nI_add, ks_eq, ks_ss, h64', h65', al0]; try dsimp only [kx_wp, kx_step, kx_lI, kx_lL, kx_lA, kx_gl, kx_pI, kx_pL, kx_pR, kx_pA, kx_pV, kx_s1, kx_s2, kx_sl, kx_pre, kx_c2, kx_pl, kx_cmp, kx_oF, kx_eqN, kx_nil, kx_c1, kx_ft, kx_aI, kx_aL, kx_aR, kx_ln, Nat.reduceAdd, Option.toList, List.cons_append, List.nil_append, cf10_0, cf0_0, cf10_8, cf1_6, cf1_7, cf1_4])
          repeat' apply And.intro
          all_goals try (first | with_reducible assumption | (with_reducible refine ck_nzI ?_; simp; done) | (with_reducible refine ck_nzL ?_; simp; done) | (with_reducible refine vp_in_nI ?_ ?_ <;> first | omega | decide) | (with_reducible refine Nat.le_of_ble_eq_true ?_; rfl) | omega | exact Or.inl trivial | exact Or.inr trivial | exact Or.inl rfl | exact Or.inr rfl)
          have h0 := fun a => loop77 k 0 S0 _ _ a (by omega) (show cF (ck_mns FF cl 0) V T Q Fo St Al _ (L 116 c) c (mi + 0) by rw [hm0]; exact hF0) (by rw [hm0]; exact h94)
          rw [hm0, e51, e52, Nat.add_zero] at h0
          rw [← hP5] at h0
          exact h0 _

set_option maxRecDepth 100000 in
set_option maxHeartbeats 4000000 in
theorem ct_X10_foretold_2 (l : Launch) (G : kx_G) {P : kx_P} {sz : Nat} {M : Nat → Int32} {A : Nat → Nat → Int32} {L : Nat → Nat → Int64} {cl mi sd se : Nat} {bl : Nat → Nat} (hst : cR_st P M A cl se bl) (hdy : cR_dy P A L cl se sz bl (fun _ => mi)) (hm : cR_m M A L cl mi sd) {c k : Nat} (hc : c < cl) (hk1 : 1 ≤ k) (hk2 : k ≤ 3000) (hmk : mi + k ≤ 100000)  : kx_Mn l G sX10_foretold 9 0 0 [.ref 64, .int (nI c), .int (nI k), .int (2)] P sz (fun r P2 s2 => r = some (.int (ck_seenV (ck_mns (ck_fS M A L cl c) cl k) c 2)) ∧ s2 = sz ∧ cR_af P P2 (M, A, L) cl mi se sz bl) := by
  have hcl : cl ≤ 8 := hm.2.2.1
  have haf := fun S1 C1 d gh => cR_af_g hst hdy hm hc S1 C1 d gh
  obtain ⟨⟨K, h64, -, -, hK7, -, -⟩, ⟨Al, h65, al0, al1, al3⟩, p66, -, -, h69, ⟨gv, gd, gh, Cg, h70⟩, -, -, -, -, -, -, -, -, -, -, -, -, -, -, p1, -⟩ := id hst
  rw [hm.2.1] at hK7
  rw [hm.2.2.2.1] at al0
  obtain ⟨V, T, Q, Fo, St, S0, C, Kp, c1, c2, c3, c4, c5, c6⟩ := hdy.2.1 c hc
  have b1 := hdy.1.w hcl hc
  have b2 := hdy.1.c hcl hc
  have b3 := hdy.1.wc hcl hc hc
  have H : cx_R P 70 (bl c) V T Q Fo St Al (A 94) := ⟨b1.2.1, by decide, by omega, by decide, by decide, c1.1, c1.2.1, c1.2.2.1, c1.2.2.2.1, c1.2.2.2.2.1, h65, p66, p1⟩
  obtain ⟨hF0, h94⟩ := cF_0 (P := P) (C1 := upd (upd (upd (upd (upd (upd (upd Cg 4 (C 4)) 5 (C 5)) 6 (C 6)) 7 (C 7)) 8 (C 8)) 9 (C 9)) 10 (C 10)) hm hc c4 c5 al1 al3 (Or.inr ⟨Cg, rfl⟩)
  have hms : ∀ n, ck_mns (ck_fS M A L cl c) cl (n + 1) = ck_mn (ck_mns (ck_fS M A L cl c) cl n) cl := fun _ => rfl
  have hm0 : ck_mns (ck_fS M A L cl c) cl 0 = ck_fS M A L cl c := rfl
  have e51 : (ck_fS M A L cl c).1 51 = 0 := rfl
  have e52 : (ck_fS M A L cl c).1 52 = 0 := rfl
  have hk64 : ∀ S d C, cW P 70 (bl c) S d gh C 64 = kO 10 (kf (cr10 (cR_sv (bl 16))) K) := fun S d C => (cW_o (by decide) (by omega)).trans h64
  have hb9 := ct_X1_become l G (sz := sz) (b := 70) (c := bl (8 + c)) h70 c2 (by omega) (by decide)
  obtain ⟨P5, hP5⟩ : ∃ P5, P5 = cW P 70 (bl c) S0 (L 116 c) gh (upd (upd (upd (upd (upd (upd (upd Cg 4 (C 4)) 5 (C 5)) 6 (C 6)) 7 (C 7)) 8 (C 8)) 9 (C 9)) 10 (C 10)) := ⟨_, rfl⟩
  have hw5 : kx_set P 70 (kO 1 (kf (cr1 (.ref (bl c)) (L 116 c) gh) (upd (upd (upd (upd (upd (upd (upd Cg 4 (C 4)) 5 (C 5)) 6 (C 6)) 7 (C 7)) 8 (C 8)) 9 (C 9)) 10 (C 10)))) = P5 := by
    rw [hP5]; unfold cW; rw [ks_id (P := P) c1.2.2.2.2.2]
  rw [hw5] at hb9
  have h65' : P5 65 = kO 0 (kf cr0 Al) := by rw [hP5, cW_o (by decide) (by omega)]; exact h65
  have h64' : P5 64 = kO 10 (kf (cr10 (cR_sv (bl 16))) K) := by rw [hP5]; exact hk64 _ _ _
  generalize ck_fS M A L cl c = FF at hF0 h94 hms hm0 e51 e52
  refine kx_mkn kx_tab kxLok_X10 (ini := false) [some (.ref 64), some (.int (nI c)), some (.int (nI k)), some (.int (2)), none, none, none, none, none, none] ⟨by decide, rfl, by decide, by decide⟩ (fun _ _ _ h => ⟨_, h.1⟩) rfl rfl (fun g hB hC hN => ?_)
  have loop77 : ∀ (n9 : Nat) (n : Nat) (S1 C1 : Nat → Int32) (d : Int64) (a : Option Value), n + n9 = k → cF (ck_mns FF cl n) V T Q Fo St Al C1 d c (mi + n) → (ck_mns FF cl n).2.1 94 = A 94 → g 77 [some (.ref 64), some (.int (nI c)), some (.int (nI k)), some (.int 2), some (.ref (bl (8 + c))), some (.int (nI (mi + k))), some (.int ((ck_mns FF cl n).1 51)), some (.int ((ck_mns FF cl n).1 52)), some (.int (nI (mi + n))), a] [] (cW P 70 (bl c) S1 d gh C1) sz 0 0 := by
    intro n9
    induction n9 with
    | zero =>
      intro n S1 C1 d a hnk hF h94n
      · obtain rfl : n = k := by omega
        have hres : ck_seenV (ck_mns FF cl n) c 2 = C1 7 := hF.2.2.2.2.2.2.2.2.2.2.2.2.2.1.symm
        refine hB bX10_foretold_77 _ _ _ _ _ _ _ kX10_foretold_77 ?_
        dsimp only [bX10_foretold_77, kx_wp, kx_step, kx_lI, kx_lL, kx_lA, kx_gl, kx_pI, kx_pL, kx_pR, kx_pA, kx_pV, kx_s1, kx_s2, kx_sl, kx_pre, kx_c2, kx_pl, kx_cmp, kx_oF, kx_eqN, kx_nil, kx_c1, kx_ft, kx_aI, kx_aL, kx_aR, kx_ln, Nat.reduceAdd, Option.toList, List.cons_append, List.nil_append, cf10_0, cf0_0, cf10_8, cf1_6, cf1_7, cf1_4]
        repeat (simp only [hk64, h64, h65, h70, nI_1, nI_add, ks_eq, ks_ss]; try dsimp only [kx_wp, kx_step, kx_lI, kx_lL, kx_lA, kx_gl, kx_pI, kx_pL, kx_pR, kx_pA, kx_pV, kx_s1, kx_s2, kx_sl, kx_pre, kx_c2, kx_pl, kx_cmp, kx_oF, kx_eqN, kx_nil, kx_c1, kx_ft, kx_aI, kx_aL, kx_aR, kx_ln, Nat.reduceAdd, Option.toList, List.cons_append, List.nil_append, cf10_0, cf0_0, cf10_8, cf1_6, cf1_7, cf1_4])
        repeat' apply And.intro
        all_goals try (first | with_reducible assumption | (with_reducible refine ck_nzI ?_; simp; done) | (with_reducible refine ck_nzL ?_; simp; done) | (with_reducible refine vp_in_nI ?_ ?_ <;> first | omega | decide) | (with_reducible refine Nat.le_of_ble_eq_true ?_; rfl) | omega | exact Or.inl trivial | exact Or.inr trivial | exact Or.inl rfl | exact Or.inr rfl)
        · intro zc81
          with_reducible first | have ze81 := Int32.not_lt.mpr zc81 | have ze81 := zc81
          refine hB bX10_foretold_134 _ _ _ _ _ _ _ kX10_foretold_134 ?_
          dsimp only [bX10_foretold_134, kx_wp, kx_step, kx_lI, kx_lL, kx_lA, kx_gl, kx_pI, kx_pL, kx_pR, kx_pA, kx_pV, kx_s1, kx_s2, kx_sl, kx_pre, kx_c2, kx_pl, kx_cmp, kx_oF, kx_eqN, kx_nil, kx_c1, kx_ft, kx_aI, kx_aL, kx_aR, kx_ln, Nat.reduceAdd, Option.toList, List.cons_append, List.nil_append, cf10_0, cf0_0, cf10_8, cf1_6, cf1_7, cf1_4]
          repeat (simp only [hk64, h64, h65, h70, nI_1, nI_add, ks_eq, ks_ss]; try dsimp only [kx_wp, kx_step, kx_lI, kx_lL, kx_lA, kx_gl, kx_pI, kx_pL, kx_pR, kx_pA, kx_pV, kx_s1, kx_s2, kx_sl, kx_pre, kx_c2, kx_pl, kx_cmp, kx_oF, kx_eqN, kx_nil, kx_c1, kx_ft, kx_aI, kx_aL, kx_aR, kx_ln, Nat.reduceAdd, Option.toList, List.cons_append, List.nil_append, cf10_0, cf0_0, cf10_8, cf1_6, cf1_7, cf1_4])
          repeat' apply And.intro
          all_goals try (first | with_reducible assumption | (with_reducible refine ck_nzI ?_; simp; done) | (with_reducible refine ck_nzL ?_; simp; done) | (with_reducible refine vp_in_nI ?_ ?_ <;> first | omega | decide) | (with_reducible refine Nat.le_of_ble_eq_true ?_; rfl) | omega | exact Or.inl trivial | exact Or.inr trivial | exact Or.inl rfl | exact Or.inr rfl)
          · exact fun zc135 => absurd zc135 (by decide)
          refine kx_sw (ws := [172, 182, 190, 198, 206, 214]) rfl ?_
          dsimp only [kx_swl]
          refine ⟨fun zc135_0 => absurd zc135_0 (by decide), fun zc135_1 => absurd zc135_1 (by decide), fun zc135_2 => ?_, fun zc135_3 => absurd zc135_3 (by decide), fun zc135_4 => absurd zc135_4 (by decide), fun zc135_5 => absurd zc135_5 (by decide), trivial⟩
          refine hB bX10_foretold_190 _ _ _ _ _ _ _ kX10_foretold_190 ?_
          dsimp only [bX10_foretold_190, kx_wp, kx_step, kx_lI, kx_lL, kx_lA, kx_gl, kx_pI, kx_pL, kx_pR, kx_pA, kx_pV, kx_s1, kx_s2, kx_sl, kx_pre, kx_c2, kx_pl, kx_cmp, kx_oF, kx_eqN, kx_nil, kx_c1, kx_ft, kx_aI, kx_aL, kx_aR, kx_ln, Nat.reduceAdd, Option.toList, List.cons_append, List.nil_append, cf10_0, cf0_0, cf10_8, cf1_6, cf1_7, cf1_4]
          repeat (simp only [hk64, h64, h65, h70, nI_1, nI_add, ks_eq, ks_ss, cW_c]; try dsimp only [kx_wp, kx_step, kx_lI, kx_lL, kx_lA, kx_gl, kx_pI, kx_pL, kx_pR, kx_pA, kx_pV, kx_s1, kx_s2, kx_sl, kx_pre, kx_c2, kx_pl, kx_cmp, kx_oF, kx_eqN, kx_nil, kx_c1, kx_ft, kx_aI, kx_aL, kx_aR, kx_ln, Nat.reduceAdd, Option.toList, List.cons_append, List.nil_append, cf10_0, cf0_0, cf10_8, cf1_6, cf1_7, cf1_4])
          all_goals (repeat' apply And.intro)
          all_goals ((try clear hB hC hN); first | exact True.intro | rfl | (rw [hres]; done) | exact haf _ _ _ _ | decide)
        · intro zc81
          first | exact absurd rfl zc81 | exact absurd zc81 (by decide) | exact absurd (by decide) zc81 | (exfalso; first | exact absurd ((nI_ltI (a := k) (b := 1) (by omega) (by omega)).mp zc9) (by omega) | exact absurd ((nI_ltI (a := 3000) (b := k) (by omega) (by omega)).mp zc16) (by omega) | exact absurd zc20 (by decide) | exact absurd zc26 (by decide) | exact absurd ((nI_leI (a := mi + k) (b := mi + n) (by omega) (by omega)).mp zc81) (by omega) | exact absurd ((nI_leI (a := mi + k) (b := mi + n) (by omega) (by omega)).mpr (by omega)) zc81 | exact absurd ((nI_leI (a := mi + n) (b := mi + n) (by omega) (by omega)).mpr (by omega)) zc81) | (exfalso; simp_all; done)
    | succ n9 ih =>
      intro n S1 C1 d a hnk hF h94n
      · have hk2 : n < k := by omega
        obtain ⟨lf, a9, mo, hf, hd9, ha9, h6, hlf, hmo, hmo2, hstep⟩ := cF_s hF hc hcl (show mi + n < 100000 by omega)
        obtain ⟨S2, d2, C2, he⟩ : ∃ S2 d2 C2, cx_gm V T Q (fun j => (ck_mns FF cl n).2.1 106 (400 * c + j)) (fun j => (ck_mns FF cl n).2.1 107 (400 * c + j)) S1 C1 ((ck_mns FF cl n).2.1 105 c).toNatClampNeg (Al 1) lf a9 mo = (S2, d2, C2) := ⟨_, _, _, rfl⟩
        obtain ⟨hF2, h942, h52, hle, hgt⟩ := hstep S1 S2 d2 C2 he
        rw [← hms] at hF2 h942 h52 hle hgt
        rw [h94n] at hmo h942
        have hg9 := ct_X1_goMinute l G (sz := sz) H (S := S1) (C := C1) (d := d) (h := gh) hf (mi := mi + n) (by omega) hd9 ha9 h6 hlf hmo hmo2
        rw [he] at hg9
        dsimp only at hg9
        have hr9 := ct_X1_heardStrokes l G (sz := sz) (c := 70) (cW_c (P := P) (w := bl c) (S := S2) (C := C2) (d := d2) (h := gh))
        have hk65 : cW P 70 (bl c) S1 d gh C1 65 = kO 0 (kf cr0 Al) := (cW_o (by decide) (by omega)).trans h65
        refine hB bX10_foretold_77 _ _ _ _ _ _ _ kX10_foretold_77 ?_
        dsimp only [bX10_foretold_77, kx_wp, kx_step, kx_lI, kx_lL, kx_lA, kx_gl, kx_pI, kx_pL, kx_pR, kx_pA, kx_pV, kx_s1, kx_s2, kx_sl, kx_pre, kx_c2, kx_pl, kx_cmp, kx_oF, kx_eqN, kx_nil, kx_c1, kx_ft, kx_aI, kx_aL, kx_aR, kx_ln, Nat.reduceAdd, Option.toList, List.cons_append, List.nil_append, cf10_0, cf0_0, cf10_8, cf1_6, cf1_7, cf1_4]
        repeat (simp only [hk64, h64, h65, h70, nI_1, nI_add, ks_eq, ks_ss]; try dsimp only [kx_wp, kx_step, kx_lI, kx_lL, kx_lA, kx_gl, kx_pI, kx_pL, kx_pR, kx_pA, kx_pV, kx_s1, kx_s2, kx_sl, kx_pre, kx_c2, kx_pl, kx_cmp, kx_oF, kx_eqN, kx_nil, kx_c1, kx_ft, kx_aI, kx_aL, kx_aR, kx_ln, Nat.reduceAdd, Option.toList, List.cons_append, List.nil_append, cf10_0, cf0_0, cf10_8, cf1_6, cf1_7, cf1_4])
        repeat' apply And.intro
        all_goals try (first | with_reducible assumption | (with_reducible refine ck_nzI ?_; simp; done) | (with_reducible refine ck_nzL ?_; simp; done) | (with_reducible refine vp_in_nI ?_ ?_ <;> first | omega | decide) | (with_reducible refine Nat.le_of_ble_eq_true ?_; rfl) | omega | exact Or.inl trivial | exact Or.inr trivial | exact Or.inl rfl | exact Or.inr rfl)
        · intro zc81
          first | exact absurd rfl zc81 | exact absurd zc81 (by decide) | exact absurd (by decide) zc81 | (exfalso; first | exact absurd ((nI_ltI (a := k) (b := 1) (by omega) (by omega)).mp zc9) (by omega) | exact absurd ((nI_ltI (a := 3000) (b := k) (by omega) (by omega)).mp zc16) (by omega) | exact absurd zc20 (by decide) | exact absurd zc26 (by decide) | exact absurd ((nI_leI (a := mi + k) (b := mi + n) (by omega) (by omega)).mp zc81) (by omega) | exact absurd ((nI_leI (a := mi + k) (b := mi + n) (by omega) (by omega)).mpr (by omega)) zc81 | exact absurd ((nI_leI (a := mi + n) (b := mi + n) (by omega) (by omega)).mpr (by omega)) zc81) | (exfalso; simp_all; done)
        · intro zc81
          with_reducible first | have ze81 := Int32.not_le.mp zc81 | have ze81 := zc81
          refine hB bX10_foretold_84 _ _ _ _ _ _ _ kX10_foretold_84 ?_
          dsimp only [bX10_foretold_84, kx_wp, kx_step, kx_lI, kx_lL, kx_lA, kx_gl, kx_pI, kx_pL, kx_pR, kx_pA, kx_pV, kx_s1, kx_s2, kx_sl, kx_pre, kx_c2, kx_pl, kx_cmp, kx_oF, kx_eqN, kx_nil, kx_c1, kx_ft, kx_aI, kx_aL, kx_aR, kx_ln, Nat.reduceAdd, Option.toList, List.cons_append, List.nil_append, cf10_0, cf0_0, cf10_8, cf1_6, cf1_7, cf1_4]
          repeat (simp only [hk64, h64, h65, h70, nI_1, nI_add, ks_eq, ks_ss]; try dsimp only [kx_wp, kx_step, kx_lI, kx_lL, kx_lA, kx_gl, kx_pI, kx_pL, kx_pR, kx_pA, kx_pV, kx_s1, kx_s2, kx_sl, kx_pre, kx_c2, kx_pl, kx_cmp, kx_oF, kx_eqN, kx_nil, kx_c1, kx_ft, kx_aI, kx_aL, kx_aR, kx_ln, Nat.reduceAdd, Option.toList, List.cons_append, List.nil_append, cf10_0, cf0_0, cf10_8, cf1_6, cf1_7, cf1_4])
          repeat' apply And.intro
          all_goals try (first | with_reducible assumption | (with_reducible refine ck_nzI ?_; simp; done) | (with_reducible refine ck_nzL ?_; simp; done) | (with_reducible refine vp_in_nI ?_ ?_ <;> first | omega | decide) | (with_reducible refine Nat.le_of_ble_eq_true ?_; rfl) | omega | exact Or.inl trivial | exact Or.inr trivial | exact Or.inl rfl | exact Or.inr rfl)
          refine hC.1 330 _ _ _ _ _ _ _ 1 _ _ _ _ _ _ _ _ _ _ _ _ lX10_330 (hg9) ⟨by decide, rfl⟩ (cW_c) rfl rfl (Nat.le_of_ble_eq_true rfl) (by first | decide | omega) (by decide) (by omega) (by omega) dX10_foretold_94 ?_
          refine hB bX10_foretold_97 _ _ _ _ _ _ _ kX10_foretold_97 ?_
          dsimp only [bX10_foretold_97, kx_wp, kx_step, kx_lI, kx_lL, kx_lA, kx_gl, kx_pI, kx_pL, kx_pR, kx_pA, kx_pV, kx_s1, kx_s2, kx_sl, kx_pre, kx_c2, kx_pl, kx_cmp, kx_oF, kx_eqN, kx_nil, kx_c1, kx_ft, kx_aI, kx_aL, kx_aR, kx_ln, Nat.reduceAdd, Option.toList, List.cons_append, List.nil_append, cf10_0, cf0_0, cf10_8, cf1_6, cf1_7, cf1_4]
          repeat (simp only [hk64, h64, h65, h70, nI_1, nI_add, ks_eq, ks_ss]; try dsimp only [kx_wp, kx_step, kx_lI, kx_lL, kx_lA, kx_gl, kx_pI, kx_pL, kx_pR, kx_pA, kx_pV, kx_s1, kx_s2, kx_sl, kx_pre, kx_c2, kx_pl, kx_cmp, kx_oF, kx_eqN, kx_nil, kx_c1, kx_ft, kx_aI, kx_aL, kx_aR, kx_ln, Nat.reduceAdd, Option.toList, List.cons_append, List.nil_append, cf10_0, cf0_0, cf10_8, cf1_6, cf1_7, cf1_4])
          repeat' apply And.intro
          all_goals try (first | with_reducible assumption | (with_reducible refine ck_nzI ?_; simp; done) | (with_reducible refine ck_nzL ?_; simp; done) | (with_reducible refine vp_in_nI ?_ ?_ <;> first | omega | decide) | (with_reducible refine Nat.le_of_ble_eq_true ?_; rfl) | omega | exact Or.inl trivial | exact Or.inr trivial | exact Or.inl rfl | exact Or.inr rfl)
          refine hC.1 334 _ _ _ _ _ _ _ 1 _ _ _ _ _ _ _ _ _ _ _ _ lX10_334 (hr9) ⟨by decide, rfl⟩ (cW_c) rfl rfl (Nat.le_of_ble_eq_true rfl) (by first | decide | omega) (by decide) (by omega) (by omega) dX10_foretold_101 ?_
          refine hB bX10_foretold_104 _ _ _ _ _ _ _ kX10_foretold_104 ?_
          dsimp only [bX10_foretold_104, kx_wp, kx_step, kx_lI, kx_lL, kx_lA, kx_gl, kx_pI, kx_pL, kx_pR, kx_pA, kx_pV, kx_s1, kx_s2, kx_sl, kx_pre, kx_c2, kx_pl, kx_cmp, kx_oF, kx_eqN, kx_nil, kx_c1, kx_ft, kx_aI, kx_aL, kx_aR, kx_ln, Nat.reduceAdd, Option.toList, List.cons_append, List.nil_append, cf10_0, cf0_0, cf10_8, cf1_6, cf1_7, cf1_4]
          repeat (simp only [hk64, h64, h65, h70, nI_1, nI_add, ks_eq, ks_ss]; try dsimp only [kx_wp, kx_step, kx_lI, kx_lL, kx_lA, kx_gl, kx_pI, kx_pL, kx_pR, kx_pA, kx_pV, kx_s1, kx_s2, kx_sl, kx_pre, kx_c2, kx_pl, kx_cmp, kx_oF, kx_eqN, kx_nil, kx_c1, kx_ft, kx_aI, kx_aL, kx_aR, kx_ln, Nat.reduceAdd, Option.toList, List.cons_append, List.nil_append, cf10_0, cf0_0, cf10_8, cf1_6, cf1_7, cf1_4])
          repeat' apply And.intro
          all_goals try (first | with_reducible assumption | (with_reducible refine ck_nzI ?_; simp; done) | (with_reducible refine ck_nzL ?_; simp; done) | (with_reducible refine vp_in_nI ?_ ?_ <;> first | omega | decide) | (with_reducible refine Nat.le_of_ble_eq_true ?_; rfl) | omega | exact Or.inl trivial | exact Or.inr trivial | exact Or.inl rfl | exact Or.inr rfl)
          · intro zc110
            with_reducible first | have ze110 := Int32.not_lt.mpr zc110 | have ze110 := zc110
            refine hB bX10_foretold_117 _ _ _ _ _ _ _ kX10_foretold_117 ?_
            dsimp only [bX10_foretold_117, kx_wp, kx_step, kx_lI, kx_lL, kx_lA, kx_gl, kx_pI, kx_pL, kx_pR, kx_pA, kx_pV, kx_s1, kx_s2, kx_sl, kx_pre, kx_c2, kx_pl, kx_cmp, kx_oF, kx_eqN, kx_nil, kx_c1, kx_ft, kx_aI, kx_aL, kx_aR, kx_ln, Nat.reduceAdd, Option.toList, List.cons_append, List.nil_append, cf10_0, cf0_0, cf10_8, cf1_6, cf1_7, cf1_4]
            repeat (simp only [hk64, h64, h65, h70, nI_1, nI_add, ks_eq, ks_ss]; try dsimp only [kx_wp, kx_step, kx_lI, kx_lL, kx_lA, kx_gl, kx_pI, kx_pL, kx_pR, kx_pA, kx_pV, kx_s1, kx_s2, kx_sl, kx_pre, kx_c2, kx_pl, kx_cmp, kx_oF, kx_eqN, kx_nil, kx_c1, kx_ft, kx_aI, kx_aL, kx_aR, kx_ln, Nat.reduceAdd, Option.toList, List.cons_append, List.nil_append, cf10_0, cf0_0, cf10_8, cf1_6, cf1_7, cf1_4])
            repeat' apply And.intro
            all_goals try (first | with_reducible assumption | (with_reducible refine ck_nzI ?_; simp; done) | (with_reducible refine ck_nzL ?_; simp; done) | (with_reducible refine vp_in_nI ?_ ?_ <;> first | omega | decide) | (with_reducible refine Nat.le_of_ble_eq_true ?_; rfl) | omega | exact Or.inl trivial | exact Or.inr trivial | exact Or.inl rfl | exact Or.inr rfl)
            refine hB bX10_foretold_118 _ _ _ _ _ _ _ kX10_foretold_118 ?_
            dsimp only [bX10_foretold_118, kx_wp, kx_step, kx_lI, kx_lL, kx_lA, kx_gl, kx_pI, kx_pL, kx_pR, kx_pA, kx_pV, kx_s1, kx_s2, kx_sl, kx_pre, kx_c2, kx_pl, kx_cmp, kx_oF, kx_eqN, kx_nil, kx_c1, kx_ft, kx_aI, kx_aL, kx_aR, kx_ln, Nat.reduceAdd, Option.toList, List.cons_append, List.nil_append, cf10_0, cf0_0, cf10_8, cf1_6, cf1_7, cf1_4]
            repeat (simp only [hk64, h64, h65, h70, nI_1, nI_add, ks_eq, ks_ss]; try dsimp only [kx_wp, kx_step, kx_lI, kx_lL, kx_lA, kx_gl, kx_pI, kx_pL, kx_pR, kx_pA, kx_pV, kx_s1, kx_s2, kx_sl, kx_pre, kx_c2, kx_pl, kx_cmp, kx_oF, kx_eqN, kx_nil, kx_c1, kx_ft, kx_aI, kx_aL, kx_aR, kx_ln, Nat.reduceAdd, Option.toList, List.cons_append, List.nil_append, cf10_0, cf0_0, cf10_8, cf1_6, cf1_7, cf1_4])
            repeat' apply And.intro
            all_goals try (first | with_reducible assumption | (with_reducible refine ck_nzI ?_; simp; done) | (with_reducible refine ck_nzL ?_; simp; done) | (with_reducible refine vp_in_nI ?_ ?_ <;> first | omega | decide) | (with_reducible refine Nat.le_of_ble_eq_true ?_; rfl) | omega | exact Or.inl trivial | exact Or.inr trivial | exact Or.inl rfl | exact Or.inr rfl)
            have hih := fun a => ih (n + 1) S2 C2 d2 a (by omega) hF2 h942
            rw [h52, show mi + (n + 1) = mi + n + 1 from rfl] at hih
            first | (rw [hle zc110] at hih; exact hih _) | (rw [hgt zc110] at hih; exact hih _)
          · intro zc110
            with_reducible first | have ze110 := Int32.not_le.mp zc110 | have ze110 := zc110
            refine hB bX10_foretold_113 _ _ _ _ _ _ _ kX10_foretold_113 ?_
            dsimp only [bX10_foretold_113, kx_wp, kx_step, kx_lI, kx_lL, kx_lA, kx_gl, kx_pI, kx_pL, kx_pR, kx_pA, kx_pV, kx_s1, kx_s2, kx_sl, kx_pre, kx_c2, kx_pl, kx_cmp, kx_oF, kx_eqN, kx_nil, kx_c1, kx_ft, kx_aI, kx_aL, kx_aR, kx_ln, Nat.reduceAdd, Option.toList, List.cons_append, List.nil_append, cf10_0, cf0_0, cf10_8, cf1_6, cf1_7, cf1_4]
            repeat (simp only [hk64, h64, h65, h70, nI_1, nI_add, ks_eq, ks_ss]; try dsimp only [kx_wp, kx_step, kx_lI, kx_lL, kx_lA, kx_gl, kx_pI, kx_pL, kx_pR, kx_pA, kx_pV, kx_s1, kx_s2, kx_sl, kx_pre, kx_c2, kx_pl, kx_cmp, kx_oF, kx_eqN, kx_nil, kx_c1, kx_ft, kx_aI, kx_aL, kx_aR, kx_ln, Nat.reduceAdd, Option.toList, List.cons_append, List.nil_append, cf10_0, cf0_0, cf10_8, cf1_6, cf1_7, cf1_4])
            repeat' apply And.intro
            all_goals try (first | with_reducible assumption | (with_reducible refine ck_nzI ?_; simp; done) | (with_reducible refine ck_nzL ?_; simp; done) | (with_reducible refine vp_in_nI ?_ ?_ <;> first | omega | decide) | (with_reducible refine Nat.le_of_ble_eq_true ?_; rfl) | omega | exact Or.inl trivial | exact Or.inr trivial | exact Or.inl rfl | exact Or.inr rfl)
            refine hB bX10_foretold_118 _ _ _ _ _ _ _ kX10_foretold_118 ?_
            dsimp only [bX10_foretold_118, kx_wp, kx_step, kx_lI, kx_lL, kx_lA, kx_gl, kx_pI, kx_pL, kx_pR, kx_pA, kx_pV, kx_s1, kx_s2, kx_sl, kx_pre, kx_c2, kx_pl, kx_cmp, kx_oF, kx_eqN, kx_nil, kx_c1, kx_ft, kx_aI, kx_aL, kx_aR, kx_ln, Nat.reduceAdd, Option.toList, List.cons_append, List.nil_append, cf10_0, cf0_0, cf10_8, cf1_6, cf1_7, cf1_4]
            repeat (simp only [hk64, h64, h65, h70, nI_1, nI_add, ks_eq, ks_ss]; try dsimp only [kx_wp, kx_step, kx_lI, kx_lL, kx_lA, kx_gl, kx_pI, kx_pL, kx_pR, kx_pA, kx_pV, kx_s1, kx_s2, kx_sl, kx_pre, kx_c2, kx_pl, kx_cmp, kx_oF, kx_eqN, kx_nil, kx_c1, kx_ft, kx_aI, kx_aL, kx_aR, kx_ln, Nat.reduceAdd, Option.toList, List.cons_append, List.nil_append, cf10_0, cf0_0, cf10_8, cf1_6, cf1_7, cf1_4])
            repeat' apply And.intro
            all_goals try (first | with_reducible assumption | (with_reducible refine ck_nzI ?_; simp; done) | (with_reducible refine ck_nzL ?_; simp; done) | (with_reducible refine vp_in_nI ?_ ?_ <;> first | omega | decide) | (with_reducible refine Nat.le_of_ble_eq_true ?_; rfl) | omega | exact Or.inl trivial | exact Or.inr trivial | exact Or.inl rfl | exact Or.inr rfl)
            have hih := fun a => ih (n + 1) S2 C2 d2 a (by omega) hF2 h942
            rw [h52, show mi + (n + 1) = mi + n + 1 from rfl] at hih
            first | (rw [hle zc110] at hih; exact hih _) | (rw [hgt zc110] at hih; exact hih _)
  refine hB bX10_foretold_0 _ _ _ _ _ _ _ kX10_foretold_0 ?_
  dsimp only [bX10_foretold_0, kx_wp, kx_step, kx_lI, kx_lL, kx_lA, kx_gl, kx_pI, kx_pL, kx_pR, kx_pA, kx_pV, kx_s1, kx_s2, kx_sl, kx_pre, kx_c2, kx_pl, kx_cmp, kx_oF, kx_eqN, kx_nil, kx_c1, kx_ft, kx_aI, kx_aL, kx_aR, kx_ln, Nat.reduceAdd, Option.toList, List.cons_append, List.nil_append, cf10_0, cf0_0, cf10_8, cf1_6, cf1_7, cf1_4]
  repeat (simp only [hk64, h64, h65, h70, nI_1, nI_add, ks_eq, ks_ss]; try dsimp only [kx_wp, kx_step, kx_lI, kx_lL, kx_lA, kx_gl, kx_pI, kx_pL, kx_pR, kx_pA, kx_pV, kx_s1, kx_s2, kx_sl, kx_pre, kx_c2, kx_pl, kx_cmp, kx_oF, kx_eqN, kx_nil, kx_c1, kx_ft, kx_aI, kx_aL, kx_aR, kx_ln, Nat.reduceAdd, Option.toList, List.cons_append, List.nil_append, cf10_0, cf0_0, cf10_8, cf1_6, cf1_7, cf1_4])
  repeat' apply And.intro
  all_goals try (first | with_reducible assumption | (with_reducible refine ck_nzI ?_; simp; done) | (with_reducible refine ck_nzL ?_; simp; done) | (with_reducible refine vp_in_nI ?_ ?_ <;> first | omega | decide) | (with_reducible refine Nat.le_of_ble_eq_true ?_; rfl) | omega | exact Or.inl trivial | exact Or.inr trivial | exact Or.inl rfl | exact Or.inr rfl)
  refine hC.1 138 _ _ _ _ _ _ _ 10 _ _ _ _ _ _ _ _ _ _ _ _ lX10_138 (ct_X10_theClock l G h64 h69 hK7 hcl hc) ⟨by decide, rfl⟩ (h64) rfl rfl (Nat.le_of_ble_eq_true rfl) (by first | decide | omega) (by decide) (by omega) (by omega) dX10_foretold_2 ?_
  refine hB bX10_foretold_5 _ _ _ _ _ _ _ kX10_foretold_5 ?_
  dsimp only [bX10_foretold_5, kx_wp, kx_step, kx_lI, kx_lL, kx_lA, kx_gl, kx_pI, kx_pL, kx_pR, kx_pA, kx_pV, kx_s1, kx_s2, kx_sl, kx_pre, kx_c2, kx_pl, kx_cmp, kx_oF, kx_eqN, kx_nil, kx_c1, kx_ft, kx_aI, kx_aL, kx_aR, kx_ln, Nat.reduceAdd, Option.toList, List.cons_append, List.nil_append, cf10_0, cf0_0, cf10_8, cf1_6, cf1_7, cf1_4]
  repeat (simp only [hk64, h64, h65, h70, nI_1, nI_add, ks_eq, ks_ss]; try dsimp only [kx_wp, kx_step, kx_lI, kx_lL, kx_lA, kx_gl, kx_pI, kx_pL, kx_pR, kx_pA, kx_pV, kx_s1, kx_s2, kx_sl, kx_pre, kx_c2, kx_pl, kx_cmp, kx_oF, kx_eqN, kx_nil, kx_c1, kx_ft, kx_aI, kx_aL, kx_aR, kx_ln, Nat.reduceAdd, Option.toList, List.cons_append, List.nil_append, cf10_0, cf0_0, cf10_8, cf1_6, cf1_7, cf1_4])
  repeat' apply And.intro
  all_goals try (first | with_reducible assumption | (with_reducible refine ck_nzI ?_; simp; done) | (with_reducible refine ck_nzL ?_; simp; done) | (with_reducible refine vp_in_nI ?_ ?_ <;> first | omega | decide) | (with_reducible refine Nat.le_of_ble_eq_true ?_; rfl) | omega | exact Or.inl trivial | exact Or.inr trivial | exact Or.inl rfl | exact Or.inr rfl)
  · intro zc9
    first | exact absurd rfl zc9 | exact absurd zc9 (by decide) | exact absurd (by decide) zc9 | (exfalso; first | exact absurd ((nI_ltI (a := k) (b := 1) (by omega) (by omega)).mp zc9) (by omega) | exact absurd ((nI_ltI (a := 3000) (b := k) (by omega) (by omega)).mp zc16) (by omega) | exact absurd zc20 (by decide) | exact absurd zc26 (by decide) | exact absurd ((nI_leI (a := mi + k) (b := mi + n) (by omega) (by omega)).mp zc81) (by omega) | exact absurd ((nI_leI (a := mi + k) (b := mi + n) (by omega) (by omega)).mpr (by omega)) zc81 | exact absurd ((nI_leI (a := mi + n) (b := mi + n) (by omega) (by omega)).mpr (by omega)) zc81) | (exfalso; simp_all; done)
  · intro zc9
    with_reducible first | have ze9 := Int32.not_lt.mp zc9 | have ze9 := zc9
    refine hB bX10_foretold_12 _ _ _ _ _ _ _ kX10_foretold_12 ?_
    dsimp only [bX10_foretold_12, kx_wp, kx_step, kx_lI, kx_lL, kx_lA, kx_gl, kx_pI, kx_pL, kx_pR, kx_pA, kx_pV, kx_s1, kx_s2, kx_sl, kx_pre, kx_c2, kx_pl, kx_cmp, kx_oF, kx_eqN, kx_nil, kx_c1, kx_ft, kx_aI, kx_aL, kx_aR, kx_ln, Nat.reduceAdd, Option.toList, List.cons_append, List.nil_append, cf10_0, cf0_0, cf10_8, cf1_6, cf1_7, cf1_4]
    repeat (simp only [hk64, h64, h65, h70, nI_1, nI_add, ks_eq, ks_ss]; try dsimp only [kx_wp, kx_step, kx_lI, kx_lL, kx_lA, kx_gl, kx_pI, kx_pL, kx_pR, kx_pA, kx_pV, kx_s1, kx_s2, kx_sl, kx_pre, kx_c2, kx_pl, kx_cmp, kx_oF, kx_eqN, kx_nil, kx_c1, kx_ft, kx_aI, kx_aL, kx_aR, kx_ln, Nat.reduceAdd, Option.toList, List.cons_append, List.nil_append, cf10_0, cf0_0, cf10_8, cf1_6, cf1_7, cf1_4])
    repeat' apply And.intro
    all_goals try (first | with_reducible assumption | (with_reducible refine ck_nzI ?_; simp; done) | (with_reducible refine ck_nzL ?_; simp; done) | (with_reducible refine vp_in_nI ?_ ?_ <;> first | omega | decide) | (with_reducible refine Nat.le_of_ble_eq_true ?_; rfl) | omega | exact Or.inl trivial | exact Or.inr trivial | exact Or.inl rfl | exact Or.inr rfl)
    · intro zc16
      first | exact absurd rfl zc16 | exact absurd zc16 (by decide) | exact absurd (by decide) zc16 | (exfalso; first | exact absurd ((nI_ltI (a := k) (b := 1) (by omega) (by omega)).mp zc9) (by omega) | exact absurd ((nI_ltI (a := 3000) (b := k) (by omega) (by omega)).mp zc16) (by omega) | exact absurd zc20 (by decide) | exact absurd zc26 (by decide) | exact absurd ((nI_leI (a := mi + k) (b := mi + n) (by omega) (by omega)).mp zc81) (by omega) | exact absurd ((nI_leI (a := mi + k) (b := mi + n) (by omega) (by omega)).mpr (by omega)) zc81 | exact absurd ((nI_leI (a := mi + n) (b := mi + n) (by omega) (by omega)).mpr (by omega)) zc81) | (exfalso; simp_all; done)
    · intro zc16
      with_reducible first | have ze16 := Int32.not_lt.mp zc16 | have ze16 := zc16
      refine hB bX10_foretold_19 _ _ _ _ _ _ _ kX10_foretold_19 ?_
      dsimp only [bX10_foretold_19, kx_wp, kx_step, kx_lI, kx_lL, kx_lA, kx_gl, kx_pI, kx_pL, kx_pR, kx_pA, kx_pV, kx_s1, kx_s2, kx_sl, kx_pre, kx_c2, kx_pl, kx_cmp, kx_oF, kx_eqN, kx_nil, kx_c1, kx_ft, kx_aI, kx_aL, kx_aR, kx_ln, Nat.reduceAdd, Option.toList, List.cons_append, List.nil_append, cf10_0, cf0_0, cf10_8, cf1_6, cf1_7, cf1_4]
      repeat (simp only [hk64, h64, h65, h70, nI_1, nI_add, ks_eq, ks_ss]; try dsimp only [kx_wp, kx_step, kx_lI, kx_lL, kx_lA, kx_gl, kx_pI, kx_pL, kx_pR, kx_pA, kx_pV, kx_s1, kx_s2, kx_sl, kx_pre, kx_c2, kx_pl, kx_cmp, kx_oF, kx_eqN, kx_nil, kx_c1, kx_ft, kx_aI, kx_aL, kx_aR, kx_ln, Nat.reduceAdd, Option.toList, List.cons_append, List.nil_append, cf10_0, cf0_0, cf10_8, cf1_6, cf1_7, cf1_4])
      repeat' apply And.intro
      all_goals try (first | with_reducible assumption | (with_reducible refine ck_nzI ?_; simp; done) | (with_reducible refine ck_nzL ?_; simp; done) | (with_reducible refine vp_in_nI ?_ ?_ <;> first | omega | decide) | (with_reducible refine Nat.le_of_ble_eq_true ?_; rfl) | omega | exact Or.inl trivial | exact Or.inr trivial | exact Or.inl rfl | exact Or.inr rfl)
      · intro zc20
        first | exact absurd rfl zc20 | exact absurd zc20 (by decide) | exact absurd (by decide) zc20 | (exfalso; first | exact absurd ((nI_ltI (a := k) (b := 1) (by omega) (by omega)).mp zc9) (by omega) | exact absurd ((nI_ltI (a := 3000) (b := k) (by omega) (by omega)).mp zc16) (by omega) | exact absurd zc20 (by decide) | exact absurd zc26 (by decide) | exact absurd ((nI_leI (a := mi + k) (b := mi + n) (by omega) (by omega)).mp zc81) (by omega) | exact absurd ((nI_leI (a := mi + k) (b := mi + n) (by omega) (by omega)).mpr (by omega)) zc81 | exact absurd ((nI_leI (a := mi + n) (b := mi + n) (by omega) (by omega)).mpr (by omega)) zc81) | (exfalso; simp_all; done)
      · intro zc20
        with_reducible first | have ze20 := Int32.not_lt.mp zc20 | have ze20 := zc20
        refine hB bX10_foretold_23 _ _ _ _ _ _ _ kX10_foretold_23 ?_
        dsimp only [bX10_foretold_23, kx_wp, kx_step, kx_lI, kx_lL, kx_lA, kx_gl, kx_pI, kx_pL, kx_pR, kx_pA, kx_pV, kx_s1, kx_s2, kx_sl, kx_pre, kx_c2, kx_pl, kx_cmp, kx_oF, kx_eqN, kx_nil, kx_c1, kx_ft, kx_aI, kx_aL, kx_aR, kx_ln, Nat.reduceAdd, Option.toList, List.cons_append, List.nil_append, cf10_0, cf0_0, cf10_8, cf1_6, cf1_7, cf1_4]
        repeat (simp only [hk64, h64, h65, h70, nI_1, nI_add, ks_eq, ks_ss]; try dsimp only [kx_wp, kx_step, kx_lI, kx_lL, kx_lA, kx_gl, kx_pI, kx_pL, kx_pR, kx_pA, kx_pV, kx_s1, kx_s2, kx_sl, kx_pre, kx_c2, kx_pl, kx_cmp, kx_oF, kx_eqN, kx_nil, kx_c1, kx_ft, kx_aI, kx_aL, kx_aR, kx_ln, Nat.reduceAdd, Option.toList, List.cons_append, List.nil_append, cf10_0, cf0_0, cf10_8, cf1_6, cf1_7, cf1_4])
        repeat' apply And.intro
        all_goals try (first | with_reducible assumption | (with_reducible refine ck_nzI ?_; simp; done) | (with_reducible refine ck_nzL ?_; simp; done) | (with_reducible refine vp_in_nI ?_ ?_ <;> first | omega | decide) | (with_reducible refine Nat.le_of_ble_eq_true ?_; rfl) | omega | exact Or.inl trivial | exact Or.inr trivial | exact Or.inl rfl | exact Or.inr rfl)
        · intro zc26
          first | exact absurd rfl zc26 | exact absurd zc26 (by decide) | exact absurd (by decide) zc26 | (exfalso; first | exact absurd ((nI_ltI (a := k) (b := 1) (by omega) (by omega)).mp zc9) (by omega) | exact absurd ((nI_ltI (a := 3000) (b := k) (by omega) (by omega)).mp zc16) (by omega) | exact absurd zc20 (by decide) | exact absurd zc26 (by decide) | exact absurd ((nI_leI (a := mi + k) (b := mi + n) (by omega) (by omega)).mp zc81) (by omega) | exact absurd ((nI_leI (a := mi + k) (b := mi + n) (by omega) (by omega)).mpr (by omega)) zc81 | exact absurd ((nI_leI (a := mi + n) (b := mi + n) (by omega) (by omega)).mpr (by omega)) zc81) | (exfalso; simp_all; done)
        · intro zc26
          with_reducible first | have ze26 := Int32.not_lt.mp zc26 | have ze26 := zc26
          refine hB bX10_foretold_29 _ _ _ _ _ _ _ kX10_foretold_29 ?_
          dsimp only [bX10_foretold_29, kx_wp, kx_step, kx_lI, kx_lL, kx_lA, kx_gl, kx_pI, kx_pL, kx_pR, kx_pA, kx_pV, kx_s1, kx_s2, kx_sl, kx_pre, kx_c2, kx_pl, kx_cmp, kx_oF, kx_eqN, kx_nil, kx_c1, kx_ft, kx_aI, kx_aL, kx_aR, kx_ln, Nat.reduceAdd, Option.toList, List.cons_append, List.nil_append, cf10_0, cf0_0, cf10_8, cf1_6, cf1_7, cf1_4]
          repeat (simp only [hk64, h64, h65, h70, nI_1, nI_add, ks_eq, ks_ss]; try dsimp only [kx_wp, kx_step, kx_lI, kx_lL, kx_lA, kx_gl, kx_pI, kx_pL, kx_pR, kx_pA, kx_pV, kx_s1, kx_s2, kx_sl, kx_pre, kx_c2, kx_pl, kx_cmp, kx_oF, kx_eqN, kx_nil, kx_c1, kx_ft, kx_aI, kx_aL, kx_aR, kx_ln, Nat.reduceAdd, Option.toList, List.cons_append, List.nil_append, cf10_0, cf0_0, cf10_8, cf1_6, cf1_7, cf1_4])
          repeat' apply And.intro
          all_goals try (first | with_reducible assumption | (with_reducible refine ck_nzI ?_; simp; done) | (with_reducible refine ck_nzL ?_; simp; done) | (with_reducible refine vp_in_nI ?_ ?_ <;> first | omega | decide) | (with_reducible refine Nat.le_of_ble_eq_true ?_; rfl) | omega | exact Or.inl trivial | exact Or.inr trivial | exact Or.inl rfl | exact Or.inr rfl)
          refine hC.2.1 95 _ _ _ _ _ _ _ _ _ _ _ _ _ _ _ _ _ lX10_95 (ct_X10_need l G (b := 1) (by decide)) rfl rfl (Nat.le_of_ble_eq_true rfl) (by first | decide | omega) (by decide) (by omega) (by omega) dX10_foretold_34 ?_
          refine hB bX10_foretold_37 _ _ _ _ _ _ _ kX10_foretold_37 ?_
          dsimp only [bX10_foretold_37, kx_wp, kx_step, kx_lI, kx_lL, kx_lA, kx_gl, kx_pI, kx_pL, kx_pR, kx_pA, kx_pV, kx_s1, kx_s2, kx_sl, kx_pre, kx_c2, kx_pl, kx_cmp, kx_oF, kx_eqN, kx_nil, kx_c1, kx_ft, kx_aI, kx_aL, kx_aR, kx_ln, Nat.reduceAdd, Option.toList, List.cons_append, List.nil_append, cf10_0, cf0_0, cf10_8, cf1_6, cf1_7, cf1_4]
          repeat (simp only [hk64, h64, h65, h70, nI_1, nI_add, ks_eq, ks_ss, al0]; try dsimp only [kx_wp, kx_step, kx_lI, kx_lL, kx_lA, kx_gl, kx_pI, kx_pL, kx_pR, kx_pA, kx_pV, kx_s1, kx_s2, kx_sl, kx_pre, kx_c2, kx_pl, kx_cmp, kx_oF, kx_eqN, kx_nil, kx_c1, kx_ft, kx_aI, kx_aL, kx_aR, kx_ln, Nat.reduceAdd, Option.toList, List.cons_append, List.nil_append, cf10_0, cf0_0, cf10_8, cf1_6, cf1_7, cf1_4])
          repeat' apply And.intro
          all_goals try (first | with_reducible assumption | (with_reducible refine ck_nzI ?_; simp; done) | (with_reducible refine ck_nzL ?_; simp; done) | (with_reducible refine vp_in_nI ?_ ?_ <;> first | omega | decide) | (with_reducible refine Nat.le_of_ble_eq_true ?_; rfl) | omega | exact Or.inl trivial | exact Or.inr trivial | exact Or.inl rfl | exact Or.inr rfl)
          refine hC.2.1 132 _ _ _ _ _ _ _ _ _ _ _ _ _ _ _ _ _ lX10_132 (ct_X10_needMinute l G (m := nI (mi + k)) ((nI_leI (a := mi + k) (b := 100000) (by omega) (by omega)).mpr hmk)) rfl rfl (Nat.le_of_ble_eq_true rfl) (by first | decide | omega) (by decide) (by omega) (by omega) dX10_foretold_50 ?_
          refine hB bX10_foretold_53 _ _ _ _ _ _ _ kX10_foretold_53 ?_
          dsimp only [bX10_foretold_53, kx_wp, kx_step, kx_lI, kx_lL, kx_lA, kx_gl, kx_pI, kx_pL, kx_pR, kx_pA, kx_pV, kx_s1, kx_s2, kx_sl, kx_pre, kx_c2, kx_pl, kx_cmp, kx_oF, kx_eqN, kx_nil, kx_c1, kx_ft, kx_aI, kx_aL, kx_aR, kx_ln, Nat.reduceAdd, Option.toList, List.cons_append, List.nil_append, cf10_0, cf0_0, cf10_8, cf1_6, cf1_7, cf1_4]
          repeat (simp only [hk64, h64, h65, h70, nI_1, nI_add, ks_eq, ks_ss]; try dsimp only [kx_wp, kx_step, kx_lI, kx_lL, kx_lA, kx_gl, kx_pI, kx_pL, kx_pR, kx_pA, kx_pV, kx_s1, kx_s2, kx_sl, kx_pre, kx_c2, kx_pl, kx_cmp, kx_oF, kx_eqN, kx_nil, kx_c1, kx_ft, kx_aI, kx_aL, kx_aR, kx_ln, Nat.reduceAdd, Option.toList, List.cons_append, List.nil_append, cf10_0, cf0_0, cf10_8, cf1_6, cf1_7, cf1_4])
          repeat' apply And.intro
          all_goals try (first | with_reducible assumption | (with_reducible refine ck_nzI ?_; simp; done) | (with_reducible refine ck_nzL ?_; simp; done) | (with_reducible refine vp_in_nI ?_ ?_ <;> first | omega | decide) | (with_reducible refine Nat.le_of_ble_eq_true ?_; rfl) | omega | exact Or.inl trivial | exact Or.inr trivial | exact Or.inl rfl | exact Or.inr rfl)
          refine hC.1 326 _ _ _ _ _ _ _ 1 _ _ _ _ _ _ _ _ _ _ _ _ lX10_326 (hb9) ⟨by decide, rfl⟩ (h70) rfl rfl (Nat.le_of_ble_eq_true rfl) (by first | decide | omega) (by decide) (by omega) (by omega) dX10_foretold_59 ?_
          refine hB bX10_foretold_62 _ _ _ _ _ _ _ kX10_foretold_62 ?_
          dsimp only [bX10_foretold_62, kx_wp, kx_step, kx_lI, kx_lL, kx_lA, kx_gl, kx_pI, kx_pL, kx_pR, kx_pA, kx_pV, kx_s1, kx_s2, kx_sl, kx_pre, kx_c2, kx_pl, kx_cmp, kx_oF, kx_eqN, kx_nil, kx_c1, kx_ft, kx_aI, kx_aL, kx_aR, kx_ln, Nat.reduceAdd, Option.toList, List.cons_append, List.nil_append, cf10_0, cf0_0, cf10_8, cf1_6, cf1_7, cf1_4]
          repeat (simp only [hk64, h64, h65, h70, nI_1, nI_add, ks_eq, ks_ss, h64', h65', al0]; try dsimp only [kx_wp, kx_step, kx_lI, kx_lL, kx_lA, kx_gl, kx_pI, kx_pL, kx_pR, kx_pA, kx_pV, kx_s1, kx_s2, kx_sl, kx_pre, kx_c2, kx_pl, kx_cmp, kx_oF, kx_eqN, kx_nil, kx_c1, kx_ft, kx_aI, kx_aL, kx_aR, kx_ln, Nat.reduceAdd, Option.toList, List.cons_append, List.nil_append, cf10_0, cf0_0, cf10_8, cf1_6, cf1_7, cf1_4])
          repeat' apply And.intro
          all_goals try (first | with_reducible assumption | (with_reducible refine ck_nzI ?_; simp; done) | (with_reducible refine ck_nzL ?_; simp; done) | (with_reducible refine vp_in_nI ?_ ?_ <;> first | omega | decide) | (with_reducible refine Nat.le_of_ble_eq_true ?_; rfl) | omega | exact Or.inl trivial | exact Or.inr trivial | exact Or.inl rfl | exact Or.inr rfl)
          have h0 := fun a => loop77 k 0 S0 _ _ a (by omega) (show cF (ck_mns FF cl 0) V T Q Fo St Al _ (L 116 c) c (mi + 0) by rw [hm0]; exact hF0) (by rw [hm0]; exact h94)
          rw [hm0, e51, e52, Nat.add_zero] at h0
          rw [← hP5] at h0
          exact h0 _

set_option maxRecDepth 100000 in
set_option maxHeartbeats 4000000 in
theorem ct_X10_foretold_3 (l : Launch) (G : kx_G) {P : kx_P} {sz : Nat} {M : Nat → Int32} {A : Nat → Nat → Int32} {L : Nat → Nat → Int64} {cl mi sd se : Nat} {bl : Nat → Nat} (hst : cR_st P M A cl se bl) (hdy : cR_dy P A L cl se sz bl (fun _ => mi)) (hm : cR_m M A L cl mi sd) {c k : Nat} (hc : c < cl) (hk1 : 1 ≤ k) (hk2 : k ≤ 3000) (hmk : mi + k ≤ 100000)  : kx_Mn l G sX10_foretold 9 0 0 [.ref 64, .int (nI c), .int (nI k), .int (3)] P sz (fun r P2 s2 => r = some (.int (ck_seenV (ck_mns (ck_fS M A L cl c) cl k) c 3)) ∧ s2 = sz ∧ cR_af P P2 (M, A, L) cl mi se sz bl) := by
  have hcl : cl ≤ 8 := hm.2.2.1
  have haf := fun S1 C1 d gh => cR_af_g hst hdy hm hc S1 C1 d gh
  obtain ⟨⟨K, h64, -, -, hK7, -, -⟩, ⟨Al, h65, al0, al1, al3⟩, p66, -, -, h69, ⟨gv, gd, gh, Cg, h70⟩, -, -, -, -, -, -, -, -, -, -, -, -, -, -, p1, -⟩ := id hst
  rw [hm.2.1] at hK7
  rw [hm.2.2.2.1] at al0
  obtain ⟨V, T, Q, Fo, St, S0, C, Kp, c1, c2, c3, c4, c5, c6⟩ := hdy.2.1 c hc
  have b1 := hdy.1.w hcl hc
  have b2 := hdy.1.c hcl hc
  have b3 := hdy.1.wc hcl hc hc
  have H : cx_R P 70 (bl c) V T Q Fo St Al (A 94) := ⟨b1.2.1, by decide, by omega, by decide, by decide, c1.1, c1.2.1, c1.2.2.1, c1.2.2.2.1, c1.2.2.2.2.1, h65, p66, p1⟩
  obtain ⟨hF0, h94⟩ := cF_0 (P := P) (C1 := upd (upd (upd (upd (upd (upd (upd Cg 4 (C 4)) 5 (C 5)) 6 (C 6)) 7 (C 7)) 8 (C 8)) 9 (C 9)) 10 (C 10)) hm hc c4 c5 al1 al3 (Or.inr ⟨Cg, rfl⟩)
  have hms : ∀ n, ck_mns (ck_fS M A L cl c) cl (n + 1) = ck_mn (ck_mns (ck_fS M A L cl c) cl n) cl := fun _ => rfl
  have hm0 : ck_mns (ck_fS M A L cl c) cl 0 = ck_fS M A L cl c := rfl
  have e51 : (ck_fS M A L cl c).1 51 = 0 := rfl
  have e52 : (ck_fS M A L cl c).1 52 = 0 := rfl
  have hk64 : ∀ S d C, cW P 70 (bl c) S d gh C 64 = kO 10 (kf (cr10 (cR_sv (bl 16))) K) := fun S d C => (cW_o (by decide) (by omega)).trans h64
  have hb9 := ct_X1_become l G (sz := sz) (b := 70) (c := bl (8 + c)) h70 c2 (by omega) (by decide)
  obtain ⟨P5, hP5⟩ : ∃ P5, P5 = cW P 70 (bl c) S0 (L 116 c) gh (upd (upd (upd (upd (upd (upd (upd Cg 4 (C 4)) 5 (C 5)) 6 (C 6)) 7 (C 7)) 8 (C 8)) 9 (C 9)) 10 (C 10)) := ⟨_, rfl⟩
  have hw5 : kx_set P 70 (kO 1 (kf (cr1 (.ref (bl c)) (L 116 c) gh) (upd (upd (upd (upd (upd (upd (upd Cg 4 (C 4)) 5 (C 5)) 6 (C 6)) 7 (C 7)) 8 (C 8)) 9 (C 9)) 10 (C 10)))) = P5 := by
    rw [hP5]; unfold cW; rw [ks_id (P := P) c1.2.2.2.2.2]
  rw [hw5] at hb9
  have h65' : P5 65 = kO 0 (kf cr0 Al) := by rw [hP5, cW_o (by decide) (by omega)]; exact h65
  have h64' : P5 64 = kO 10 (kf (cr10 (cR_sv (bl 16))) K) := by rw [hP5]; exact hk64 _ _ _
  generalize ck_fS M A L cl c = FF at hF0 h94 hms hm0 e51 e52
  refine kx_mkn kx_tab kxLok_X10 (ini := false) [some (.ref 64), some (.int (nI c)), some (.int (nI k)), some (.int (3)), none, none, none, none, none, none] ⟨by decide, rfl, by decide, by decide⟩ (fun _ _ _ h => ⟨_, h.1⟩) rfl rfl (fun g hB hC hN => ?_)
  have loop77 : ∀ (n9 : Nat) (n : Nat) (S1 C1 : Nat → Int32) (d : Int64) (a : Option Value), n + n9 = k → cF (ck_mns FF cl n) V T Q Fo St Al C1 d c (mi + n) → (ck_mns FF cl n).2.1 94 = A 94 → g 77 [some (.ref 64), some (.int (nI c)), some (.int (nI k)), some (.int 3), some (.ref (bl (8 + c))), some (.int (nI (mi + k))), some (.int ((ck_mns FF cl n).1 51)), some (.int ((ck_mns FF cl n).1 52)), some (.int (nI (mi + n))), a] [] (cW P 70 (bl c) S1 d gh C1) sz 0 0 := by
    intro n9
    induction n9 with
    | zero =>
      intro n S1 C1 d a hnk hF h94n
      · obtain rfl : n = k := by omega
        have hres : ck_seenV (ck_mns FF cl n) c 3 = (if V 12 = 0 then -1 else C1 8) := by
          show (if (ck_mns FF cl n).2.1 117 c = 0 then -1 else (ck_mns FF cl n).2.1 110 c) = _
          rw [← hF.1.2.2.1]
          by_cases z9 : V 12 = 0
          · rw [if_pos z9, if_pos z9]
          · rw [if_neg z9, if_neg z9]
            exact (hF.2.2.2.2.2.2.2.2.2.2.2.2.2.2.1 (by rw [← hF.1.2.2.1]; exact z9)).symm
        have he9 := ct_X1_wheelPlace l G (sz := sz) H (S := S1) (C := C1) (d := d) (h := gh)
        refine hB bX10_foretold_77 _ _ _ _ _ _ _ kX10_foretold_77 ?_
        dsimp only [bX10_foretold_77, kx_wp, kx_step, kx_lI, kx_lL, kx_lA, kx_gl, kx_pI, kx_pL, kx_pR, kx_pA, kx_pV, kx_s1, kx_s2, kx_sl, kx_pre, kx_c2, kx_pl, kx_cmp, kx_oF, kx_eqN, kx_nil, kx_c1, kx_ft, kx_aI, kx_aL, kx_aR, kx_ln, Nat.reduceAdd, Option.toList, List.cons_append, List.nil_append, cf10_0, cf0_0, cf10_8, cf1_6, cf1_7, cf1_4]
        repeat (simp only [hk64, h64, h65, h70, nI_1, nI_add, ks_eq, ks_ss]; try dsimp only [kx_wp, kx_step, kx_lI, kx_lL, kx_lA, kx_gl, kx_pI, kx_pL, kx_pR, kx_pA, kx_pV, kx_s1, kx_s2, kx_sl, kx_pre, kx_c2, kx_pl, kx_cmp, kx_oF, kx_eqN, kx_nil, kx_c1, kx_ft, kx_aI, kx_aL, kx_aR, kx_ln, Nat.reduceAdd, Option.toList, List.cons_append, List.nil_append, cf10_0, cf0_0, cf10_8, cf1_6, cf1_7, cf1_4])
        repeat' apply And.intro
        all_goals try (first | with_reducible assumption | (with_reducible refine ck_nzI ?_; simp; done) | (with_reducible refine ck_nzL ?_; simp; done) | (with_reducible refine vp_in_nI ?_ ?_ <;> first | omega | decide) | (with_reducible refine Nat.le_of_ble_eq_true ?_; rfl) | omega | exact Or.inl trivial | exact Or.inr trivial | exact Or.inl rfl | exact Or.inr rfl)
        · intro zc81
          with_reducible first | have ze81 := Int32.not_lt.mpr zc81 | have ze81 := zc81
          refine hB bX10_foretold_134 _ _ _ _ _ _ _ kX10_foretold_134 ?_
          dsimp only [bX10_foretold_134, kx_wp, kx_step, kx_lI, kx_lL, kx_lA, kx_gl, kx_pI, kx_pL, kx_pR, kx_pA, kx_pV, kx_s1, kx_s2, kx_sl, kx_pre, kx_c2, kx_pl, kx_cmp, kx_oF, kx_eqN, kx_nil, kx_c1, kx_ft, kx_aI, kx_aL, kx_aR, kx_ln, Nat.reduceAdd, Option.toList, List.cons_append, List.nil_append, cf10_0, cf0_0, cf10_8, cf1_6, cf1_7, cf1_4]
          repeat (simp only [hk64, h64, h65, h70, nI_1, nI_add, ks_eq, ks_ss]; try dsimp only [kx_wp, kx_step, kx_lI, kx_lL, kx_lA, kx_gl, kx_pI, kx_pL, kx_pR, kx_pA, kx_pV, kx_s1, kx_s2, kx_sl, kx_pre, kx_c2, kx_pl, kx_cmp, kx_oF, kx_eqN, kx_nil, kx_c1, kx_ft, kx_aI, kx_aL, kx_aR, kx_ln, Nat.reduceAdd, Option.toList, List.cons_append, List.nil_append, cf10_0, cf0_0, cf10_8, cf1_6, cf1_7, cf1_4])
          repeat' apply And.intro
          all_goals try (first | with_reducible assumption | (with_reducible refine ck_nzI ?_; simp; done) | (with_reducible refine ck_nzL ?_; simp; done) | (with_reducible refine vp_in_nI ?_ ?_ <;> first | omega | decide) | (with_reducible refine Nat.le_of_ble_eq_true ?_; rfl) | omega | exact Or.inl trivial | exact Or.inr trivial | exact Or.inl rfl | exact Or.inr rfl)
          · exact fun zc135 => absurd zc135 (by decide)
          refine kx_sw (ws := [172, 182, 190, 198, 206, 214]) rfl ?_
          dsimp only [kx_swl]
          refine ⟨fun zc135_0 => absurd zc135_0 (by decide), fun zc135_1 => absurd zc135_1 (by decide), fun zc135_2 => absurd zc135_2 (by decide), fun zc135_3 => ?_, fun zc135_4 => absurd zc135_4 (by decide), fun zc135_5 => absurd zc135_5 (by decide), trivial⟩
          refine hB bX10_foretold_198 _ _ _ _ _ _ _ kX10_foretold_198 ?_
          dsimp only [bX10_foretold_198, kx_wp, kx_step, kx_lI, kx_lL, kx_lA, kx_gl, kx_pI, kx_pL, kx_pR, kx_pA, kx_pV, kx_s1, kx_s2, kx_sl, kx_pre, kx_c2, kx_pl, kx_cmp, kx_oF, kx_eqN, kx_nil, kx_c1, kx_ft, kx_aI, kx_aL, kx_aR, kx_ln, Nat.reduceAdd, Option.toList, List.cons_append, List.nil_append, cf10_0, cf0_0, cf10_8, cf1_6, cf1_7, cf1_4]
          repeat (simp only [hk64, h64, h65, h70, nI_1, nI_add, ks_eq, ks_ss]; try dsimp only [kx_wp, kx_step, kx_lI, kx_lL, kx_lA, kx_gl, kx_pI, kx_pL, kx_pR, kx_pA, kx_pV, kx_s1, kx_s2, kx_sl, kx_pre, kx_c2, kx_pl, kx_cmp, kx_oF, kx_eqN, kx_nil, kx_c1, kx_ft, kx_aI, kx_aL, kx_aR, kx_ln, Nat.reduceAdd, Option.toList, List.cons_append, List.nil_append, cf10_0, cf0_0, cf10_8, cf1_6, cf1_7, cf1_4])
          repeat' apply And.intro
          all_goals try (first | with_reducible assumption | (with_reducible refine ck_nzI ?_; simp; done) | (with_reducible refine ck_nzL ?_; simp; done) | (with_reducible refine vp_in_nI ?_ ?_ <;> first | omega | decide) | (with_reducible refine Nat.le_of_ble_eq_true ?_; rfl) | omega | exact Or.inl trivial | exact Or.inr trivial | exact Or.inl rfl | exact Or.inr rfl)
          refine hC.1 159 _ _ _ _ _ _ _ 1 _ _ _ _ _ _ _ _ _ _ _ _ lX10_159 (he9) ⟨by decide, rfl⟩ (cW_c) rfl rfl (Nat.le_of_ble_eq_true rfl) (by first | decide | omega) (by decide) (by omega) (by omega) dX10_foretold_202 ?_
          refine hB bX10_foretold_205 _ _ _ _ _ _ _ kX10_foretold_205 ?_
          dsimp only [bX10_foretold_205, kx_wp, kx_step, kx_lI, kx_lL, kx_lA, kx_gl, kx_pI, kx_pL, kx_pR, kx_pA, kx_pV, kx_s1, kx_s2, kx_sl, kx_pre, kx_c2, kx_pl, kx_cmp, kx_oF, kx_eqN, kx_nil, kx_c1, kx_ft, kx_aI, kx_aL, kx_aR, kx_ln, Nat.reduceAdd, Option.toList, List.cons_append, List.nil_append, cf10_0, cf0_0, cf10_8, cf1_6, cf1_7, cf1_4]
          repeat (simp only [hk64, h64, h65, h70, nI_1, nI_add, ks_eq, ks_ss]; try dsimp only [kx_wp, kx_step, kx_lI, kx_lL, kx_lA, kx_gl, kx_pI, kx_pL, kx_pR, kx_pA, kx_pV, kx_s1, kx_s2, kx_sl, kx_pre, kx_c2, kx_pl, kx_cmp, kx_oF, kx_eqN, kx_nil, kx_c1, kx_ft, kx_aI, kx_aL, kx_aR, kx_ln, Nat.reduceAdd, Option.toList, List.cons_append, List.nil_append, cf10_0, cf0_0, cf10_8, cf1_6, cf1_7, cf1_4])
          all_goals (repeat' apply And.intro)
          all_goals ((try clear hB hC hN); first | exact True.intro | rfl | (rw [hres]; done) | exact haf _ _ _ _ | decide)
        · intro zc81
          first | exact absurd rfl zc81 | exact absurd zc81 (by decide) | exact absurd (by decide) zc81 | (exfalso; first | exact absurd ((nI_ltI (a := k) (b := 1) (by omega) (by omega)).mp zc9) (by omega) | exact absurd ((nI_ltI (a := 3000) (b := k) (by omega) (by omega)).mp zc16) (by omega) | exact absurd zc20 (by decide) | exact absurd zc26 (by decide) | exact absurd ((nI_leI (a := mi + k) (b := mi + n) (by omega) (by omega)).mp zc81) (by omega) | exact absurd ((nI_leI (a := mi + k) (b := mi + n) (by omega) (by omega)).mpr (by omega)) zc81 | exact absurd ((nI_leI (a := mi + n) (b := mi + n) (by omega) (by omega)).mpr (by omega)) zc81) | (exfalso; simp_all; done)
    | succ n9 ih =>
      intro n S1 C1 d a hnk hF h94n
      · have hk2 : n < k := by omega
        obtain ⟨lf, a9, mo, hf, hd9, ha9, h6, hlf, hmo, hmo2, hstep⟩ := cF_s hF hc hcl (show mi + n < 100000 by omega)
        obtain ⟨S2, d2, C2, he⟩ : ∃ S2 d2 C2, cx_gm V T Q (fun j => (ck_mns FF cl n).2.1 106 (400 * c + j)) (fun j => (ck_mns FF cl n).2.1 107 (400 * c + j)) S1 C1 ((ck_mns FF cl n).2.1 105 c).toNatClampNeg (Al 1) lf a9 mo = (S2, d2, C2) := ⟨_, _, _, rfl⟩
        obtain ⟨hF2, h942, h52, hle, hgt⟩ := hstep S1 S2 d2 C2 he
        rw [← hms] at hF2 h942 h52 hle hgt
        rw [h94n] at hmo h942
        have hg9 := ct_X1_goMinute l G (sz := sz) H (S := S1) (C := C1) (d := d) (h := gh) hf (mi := mi + n) (by omega) hd9 ha9 h6 hlf hmo hmo2
        rw [he] at hg9
        dsimp only at hg9
        have hr9 := ct_X1_heardStrokes l G (sz := sz) (c := 70) (cW_c (P := P) (w := bl c) (S := S2) (C := C2) (d := d2) (h := gh))
        have hk65 : cW P 70 (bl c) S1 d gh C1 65 = kO 0 (kf cr0 Al) := (cW_o (by decide) (by omega)).trans h65
        refine hB bX10_foretold_77 _ _ _ _ _ _ _ kX10_foretold_77 ?_
        dsimp only [bX10_foretold_77, kx_wp, kx_step, kx_lI, kx_lL, kx_lA, kx_gl, kx_pI, kx_pL, kx_pR, kx_pA, kx_pV, kx_s1, kx_s2, kx_sl, kx_pre, kx_c2, kx_pl, kx_cmp, kx_oF, kx_eqN, kx_nil, kx_c1, kx_ft, kx_aI, kx_aL, kx_aR, kx_ln, Nat.reduceAdd, Option.toList, List.cons_append, List.nil_append, cf10_0, cf0_0, cf10_8, cf1_6, cf1_7, cf1_4]
        repeat (simp only [hk64, h64, h65, h70, nI_1, nI_add, ks_eq, ks_ss]; try dsimp only [kx_wp, kx_step, kx_lI, kx_lL, kx_lA, kx_gl, kx_pI, kx_pL, kx_pR, kx_pA, kx_pV, kx_s1, kx_s2, kx_sl, kx_pre, kx_c2, kx_pl, kx_cmp, kx_oF, kx_eqN, kx_nil, kx_c1, kx_ft, kx_aI, kx_aL, kx_aR, kx_ln, Nat.reduceAdd, Option.toList, List.cons_append, List.nil_append, cf10_0, cf0_0, cf10_8, cf1_6, cf1_7, cf1_4])
        repeat' apply And.intro
        all_goals try (first | with_reducible assumption | (with_reducible refine ck_nzI ?_; simp; done) | (with_reducible refine ck_nzL ?_; simp; done) | (with_reducible refine vp_in_nI ?_ ?_ <;> first | omega | decide) | (with_reducible refine Nat.le_of_ble_eq_true ?_; rfl) | omega | exact Or.inl trivial | exact Or.inr trivial | exact Or.inl rfl | exact Or.inr rfl)
        · intro zc81
          first | exact absurd rfl zc81 | exact absurd zc81 (by decide) | exact absurd (by decide) zc81 | (exfalso; first | exact absurd ((nI_ltI (a := k) (b := 1) (by omega) (by omega)).mp zc9) (by omega) | exact absurd ((nI_ltI (a := 3000) (b := k) (by omega) (by omega)).mp zc16) (by omega) | exact absurd zc20 (by decide) | exact absurd zc26 (by decide) | exact absurd ((nI_leI (a := mi + k) (b := mi + n) (by omega) (by omega)).mp zc81) (by omega) | exact absurd ((nI_leI (a := mi + k) (b := mi + n) (by omega) (by omega)).mpr (by omega)) zc81 | exact absurd ((nI_leI (a := mi + n) (b := mi + n) (by omega) (by omega)).mpr (by omega)) zc81) | (exfalso; simp_all; done)
        · intro zc81
          with_reducible first | have ze81 := Int32.not_le.mp zc81 | have ze81 := zc81
          refine hB bX10_foretold_84 _ _ _ _ _ _ _ kX10_foretold_84 ?_
          dsimp only [bX10_foretold_84, kx_wp, kx_step, kx_lI, kx_lL, kx_lA, kx_gl, kx_pI, kx_pL, kx_pR, kx_pA, kx_pV, kx_s1, kx_s2, kx_sl, kx_pre, kx_c2, kx_pl, kx_cmp, kx_oF, kx_eqN, kx_nil, kx_c1, kx_ft, kx_aI, kx_aL, kx_aR, kx_ln, Nat.reduceAdd, Option.toList, List.cons_append, List.nil_append, cf10_0, cf0_0, cf10_8, cf1_6, cf1_7, cf1_4]
          repeat (simp only [hk64, h64, h65, h70, nI_1, nI_add, ks_eq, ks_ss]; try dsimp only [kx_wp, kx_step, kx_lI, kx_lL, kx_lA, kx_gl, kx_pI, kx_pL, kx_pR, kx_pA, kx_pV, kx_s1, kx_s2, kx_sl, kx_pre, kx_c2, kx_pl, kx_cmp, kx_oF, kx_eqN, kx_nil, kx_c1, kx_ft, kx_aI, kx_aL, kx_aR, kx_ln, Nat.reduceAdd, Option.toList, List.cons_append, List.nil_append, cf10_0, cf0_0, cf10_8, cf1_6, cf1_7, cf1_4])
          repeat' apply And.intro
          all_goals try (first | with_reducible assumption | (with_reducible refine ck_nzI ?_; simp; done) | (with_reducible refine ck_nzL ?_; simp; done) | (with_reducible refine vp_in_nI ?_ ?_ <;> first | omega | decide) | (with_reducible refine Nat.le_of_ble_eq_true ?_; rfl) | omega | exact Or.inl trivial | exact Or.inr trivial | exact Or.inl rfl | exact Or.inr rfl)
          refine hC.1 330 _ _ _ _ _ _ _ 1 _ _ _ _ _ _ _ _ _ _ _ _ lX10_330 (hg9) ⟨by decide, rfl⟩ (cW_c) rfl rfl (Nat.le_of_ble_eq_true rfl) (by first | decide | omega) (by decide) (by omega) (by omega) dX10_foretold_94 ?_
          refine hB bX10_foretold_97 _ _ _ _ _ _ _ kX10_foretold_97 ?_
          dsimp only [bX10_foretold_97, kx_wp, kx_step, kx_lI, kx_lL, kx_lA, kx_gl, kx_pI, kx_pL, kx_pR, kx_pA, kx_pV, kx_s1, kx_s2, kx_sl, kx_pre, kx_c2, kx_pl, kx_cmp, kx_oF, kx_eqN, kx_nil, kx_c1, kx_ft, kx_aI, kx_aL, kx_aR, kx_ln, Nat.reduceAdd, Option.toList, List.cons_append, List.nil_append, cf10_0, cf0_0, cf10_8, cf1_6, cf1_7, cf1_4]
          repeat (simp only [hk64, h64, h65, h70, nI_1, nI_add, ks_eq, ks_ss]; try dsimp only [kx_wp, kx_step, kx_lI, kx_lL, kx_lA, kx_gl, kx_pI, kx_pL, kx_pR, kx_pA, kx_pV, kx_s1, kx_s2, kx_sl, kx_pre, kx_c2, kx_pl, kx_cmp, kx_oF, kx_eqN, kx_nil, kx_c1, kx_ft, kx_aI, kx_aL, kx_aR, kx_ln, Nat.reduceAdd, Option.toList, List.cons_append, List.nil_append, cf10_0, cf0_0, cf10_8, cf1_6, cf1_7, cf1_4])
          repeat' apply And.intro
          all_goals try (first | with_reducible assumption | (with_reducible refine ck_nzI ?_; simp; done) | (with_reducible refine ck_nzL ?_; simp; done) | (with_reducible refine vp_in_nI ?_ ?_ <;> first | omega | decide) | (with_reducible refine Nat.le_of_ble_eq_true ?_; rfl) | omega | exact Or.inl trivial | exact Or.inr trivial | exact Or.inl rfl | exact Or.inr rfl)
          refine hC.1 334 _ _ _ _ _ _ _ 1 _ _ _ _ _ _ _ _ _ _ _ _ lX10_334 (hr9) ⟨by decide, rfl⟩ (cW_c) rfl rfl (Nat.le_of_ble_eq_true rfl) (by first | decide | omega) (by decide) (by omega) (by omega) dX10_foretold_101 ?_
          refine hB bX10_foretold_104 _ _ _ _ _ _ _ kX10_foretold_104 ?_
          dsimp only [bX10_foretold_104, kx_wp, kx_step, kx_lI, kx_lL, kx_lA, kx_gl, kx_pI, kx_pL, kx_pR, kx_pA, kx_pV, kx_s1, kx_s2, kx_sl, kx_pre, kx_c2, kx_pl, kx_cmp, kx_oF, kx_eqN, kx_nil, kx_c1, kx_ft, kx_aI, kx_aL, kx_aR, kx_ln, Nat.reduceAdd, Option.toList, List.cons_append, List.nil_append, cf10_0, cf0_0, cf10_8, cf1_6, cf1_7, cf1_4]
          repeat (simp only [hk64, h64, h65, h70, nI_1, nI_add, ks_eq, ks_ss]; try dsimp only [kx_wp, kx_step, kx_lI, kx_lL, kx_lA, kx_gl, kx_pI, kx_pL, kx_pR, kx_pA, kx_pV, kx_s1, kx_s2, kx_sl, kx_pre, kx_c2, kx_pl, kx_cmp, kx_oF, kx_eqN, kx_nil, kx_c1, kx_ft, kx_aI, kx_aL, kx_aR, kx_ln, Nat.reduceAdd, Option.toList, List.cons_append, List.nil_append, cf10_0, cf0_0, cf10_8, cf1_6, cf1_7, cf1_4])
          repeat' apply And.intro
          all_goals try (first | with_reducible assumption | (with_reducible refine ck_nzI ?_; simp; done) | (with_reducible refine ck_nzL ?_; simp; done) | (with_reducible refine vp_in_nI ?_ ?_ <;> first | omega | decide) | (with_reducible refine Nat.le_of_ble_eq_true ?_; rfl) | omega | exact Or.inl trivial | exact Or.inr trivial | exact Or.inl rfl | exact Or.inr rfl)
          · intro zc110
            with_reducible first | have ze110 := Int32.not_lt.mpr zc110 | have ze110 := zc110
            refine hB bX10_foretold_117 _ _ _ _ _ _ _ kX10_foretold_117 ?_
            dsimp only [bX10_foretold_117, kx_wp, kx_step, kx_lI, kx_lL, kx_lA, kx_gl, kx_pI, kx_pL, kx_pR, kx_pA, kx_pV, kx_s1, kx_s2, kx_sl, kx_pre, kx_c2, kx_pl, kx_cmp, kx_oF, kx_eqN, kx_nil, kx_c1, kx_ft, kx_aI, kx_aL, kx_aR, kx_ln, Nat.reduceAdd, Option.toList, List.cons_append, List.nil_append, cf10_0, cf0_0, cf10_8, cf1_6, cf1_7, cf1_4]
            repeat (simp only [hk64, h64, h65, h70, nI_1, nI_add, ks_eq, ks_ss]; try dsimp only [kx_wp, kx_step, kx_lI, kx_lL, kx_lA, kx_gl, kx_pI, kx_pL, kx_pR, kx_pA, kx_pV, kx_s1, kx_s2, kx_sl, kx_pre, kx_c2, kx_pl, kx_cmp, kx_oF, kx_eqN, kx_nil, kx_c1, kx_ft, kx_aI, kx_aL, kx_aR, kx_ln, Nat.reduceAdd, Option.toList, List.cons_append, List.nil_append, cf10_0, cf0_0, cf10_8, cf1_6, cf1_7, cf1_4])
            repeat' apply And.intro
            all_goals try (first | with_reducible assumption | (with_reducible refine ck_nzI ?_; simp; done) | (with_reducible refine ck_nzL ?_; simp; done) | (with_reducible refine vp_in_nI ?_ ?_ <;> first | omega | decide) | (with_reducible refine Nat.le_of_ble_eq_true ?_; rfl) | omega | exact Or.inl trivial | exact Or.inr trivial | exact Or.inl rfl | exact Or.inr rfl)
            refine hB bX10_foretold_118 _ _ _ _ _ _ _ kX10_foretold_118 ?_
            dsimp only [bX10_foretold_118, kx_wp, kx_step, kx_lI, kx_lL, kx_lA, kx_gl, kx_pI, kx_pL, kx_pR, kx_pA, kx_pV, kx_s1, kx_s2, kx_sl, kx_pre, kx_c2, kx_pl, kx_cmp, kx_oF, kx_eqN, kx_nil, kx_c1, kx_ft, kx_aI, kx_aL, kx_aR, kx_ln, Nat.reduceAdd, Option.toList, List.cons_append, List.nil_append, cf10_0, cf0_0, cf10_8, cf1_6, cf1_7, cf1_4]
            repeat (simp only [hk64, h64, h65, h70, nI_1, nI_add, ks_eq, ks_ss]; try dsimp only [kx_wp, kx_step, kx_lI, kx_lL, kx_lA, kx_gl, kx_pI, kx_pL, kx_pR, kx_pA, kx_pV, kx_s1, kx_s2, kx_sl, kx_pre, kx_c2, kx_pl, kx_cmp, kx_oF, kx_eqN, kx_nil, kx_c1, kx_ft, kx_aI, kx_aL, kx_aR, kx_ln, Nat.reduceAdd, Option.toList, List.cons_append, List.nil_append, cf10_0, cf0_0, cf10_8, cf1_6, cf1_7, cf1_4])
            repeat' apply And.intro
            all_goals try (first | with_reducible assumption | (with_reducible refine ck_nzI ?_; simp; done) | (with_reducible refine ck_nzL ?_; simp; done) | (with_reducible refine vp_in_nI ?_ ?_ <;> first | omega | decide) | (with_reducible refine Nat.le_of_ble_eq_true ?_; rfl) | omega | exact Or.inl trivial | exact Or.inr trivial | exact Or.inl rfl | exact Or.inr rfl)
            have hih := fun a => ih (n + 1) S2 C2 d2 a (by omega) hF2 h942
            rw [h52, show mi + (n + 1) = mi + n + 1 from rfl] at hih
            first | (rw [hle zc110] at hih; exact hih _) | (rw [hgt zc110] at hih; exact hih _)
          · intro zc110
            with_reducible first | have ze110 := Int32.not_le.mp zc110 | have ze110 := zc110
            refine hB bX10_foretold_113 _ _ _ _ _ _ _ kX10_foretold_113 ?_
            dsimp only [bX10_foretold_113, kx_wp, kx_step, kx_lI, kx_lL, kx_lA, kx_gl, kx_pI, kx_pL, kx_pR, kx_pA, kx_pV, kx_s1, kx_s2, kx_sl, kx_pre, kx_c2, kx_pl, kx_cmp, kx_oF, kx_eqN, kx_nil, kx_c1, kx_ft, kx_aI, kx_aL, kx_aR, kx_ln, Nat.reduceAdd, Option.toList, List.cons_append, List.nil_append, cf10_0, cf0_0, cf10_8, cf1_6, cf1_7, cf1_4]
            repeat (simp only [hk64, h64, h65, h70, nI_1, nI_add, ks_eq, ks_ss]; try dsimp only [kx_wp, kx_step, kx_lI, kx_lL, kx_lA, kx_gl, kx_pI, kx_pL, kx_pR, kx_pA, kx_pV, kx_s1, kx_s2, kx_sl, kx_pre, kx_c2, kx_pl, kx_cmp, kx_oF, kx_eqN, kx_nil, kx_c1, kx_ft, kx_aI, kx_aL, kx_aR, kx_ln, Nat.reduceAdd, Option.toList, List.cons_append, List.nil_append, cf10_0, cf0_0, cf10_8, cf1_6, cf1_7, cf1_4])
            repeat' apply And.intro
            all_goals try (first | with_reducible assumption | (with_reducible refine ck_nzI ?_; simp; done) | (with_reducible refine ck_nzL ?_; simp; done) | (with_reducible refine vp_in_nI ?_ ?_ <;> first | omega | decide) | (with_reducible refine Nat.le_of_ble_eq_true ?_; rfl) | omega | exact Or.inl trivial | exact Or.inr trivial | exact Or.inl rfl | exact Or.inr rfl)
            refine hB bX10_foretold_118 _ _ _ _ _ _ _ kX10_foretold_118 ?_
            dsimp only [bX10_foretold_118, kx_wp, kx_step, kx_lI, kx_lL, kx_lA, kx_gl, kx_pI, kx_pL, kx_pR, kx_pA, kx_pV, kx_s1, kx_s2, kx_sl, kx_pre, kx_c2, kx_pl, kx_cmp, kx_oF, kx_eqN, kx_nil, kx_c1, kx_ft, kx_aI, kx_aL, kx_aR, kx_ln, Nat.reduceAdd, Option.toList, List.cons_append, List.nil_append, cf10_0, cf0_0, cf10_8, cf1_6, cf1_7, cf1_4]
            repeat (simp only [hk64, h64, h65, h70, nI_1, nI_add, ks_eq, ks_ss]; try dsimp only [kx_wp, kx_step, kx_lI, kx_lL, kx_lA, kx_gl, kx_pI, kx_pL, kx_pR, kx_pA, kx_pV, kx_s1, kx_s2, kx_sl, kx_pre, kx_c2, kx_pl, kx_cmp, kx_oF, kx_eqN, kx_nil, kx_c1, kx_ft, kx_aI, kx_aL, kx_aR, kx_ln, Nat.reduceAdd, Option.toList, List.cons_append, List.nil_append, cf10_0, cf0_0, cf10_8, cf1_6, cf1_7, cf1_4])
            repeat' apply And.intro
            all_goals try (first | with_reducible assumption | (with_reducible refine ck_nzI ?_; simp; done) | (with_reducible refine ck_nzL ?_; simp; done) | (with_reducible refine vp_in_nI ?_ ?_ <;> first | omega | decide) | (with_reducible refine Nat.le_of_ble_eq_true ?_; rfl) | omega | exact Or.inl trivial | exact Or.inr trivial | exact Or.inl rfl | exact Or.inr rfl)
            have hih := fun a => ih (n + 1) S2 C2 d2 a (by omega) hF2 h942
            rw [h52, show mi + (n + 1) = mi + n + 1 from rfl] at hih
            first | (rw [hle zc110] at hih; exact hih _) | (rw [hgt zc110] at hih; exact hih _)
  refine hB bX10_foretold_0 _ _ _ _ _ _ _ kX10_foretold_0 ?_
  dsimp only [bX10_foretold_0, kx_wp, kx_step, kx_lI, kx_lL, kx_lA, kx_gl, kx_pI, kx_pL, kx_pR, kx_pA, kx_pV, kx_s1, kx_s2, kx_sl, kx_pre, kx_c2, kx_pl, kx_cmp, kx_oF, kx_eqN, kx_nil, kx_c1, kx_ft, kx_aI, kx_aL, kx_aR, kx_ln, Nat.reduceAdd, Option.toList, List.cons_append, List.nil_append, cf10_0, cf0_0, cf10_8, cf1_6, cf1_7, cf1_4]
  repeat (simp only [hk64, h64, h65, h70, nI_1, nI_add, ks_eq, ks_ss]; try dsimp only [kx_wp, kx_step, kx_lI, kx_lL, kx_lA, kx_gl, kx_pI, kx_pL, kx_pR, kx_pA, kx_pV, kx_s1, kx_s2, kx_sl, kx_pre, kx_c2, kx_pl, kx_cmp, kx_oF, kx_eqN, kx_nil, kx_c1, kx_ft, kx_aI, kx_aL, kx_aR, kx_ln, Nat.reduceAdd, Option.toList, List.cons_append, List.nil_append, cf10_0, cf0_0, cf10_8, cf1_6, cf1_7, cf1_4])
  repeat' apply And.intro
  all_goals try (first | with_reducible assumption | (with_reducible refine ck_nzI ?_; simp; done) | (with_reducible refine ck_nzL ?_; simp; done) | (with_reducible refine vp_in_nI ?_ ?_ <;> first | omega | decide) | (with_reducible refine Nat.le_of_ble_eq_true ?_; rfl) | omega | exact Or.inl trivial | exact Or.inr trivial | exact Or.inl rfl | exact Or.inr rfl)
  refine hC.1 138 _ _ _ _ _ _ _ 10 _ _ _ _ _ _ _ _ _ _ _ _ lX10_138 (ct_X10_theClock l G h64 h69 hK7 hcl hc) ⟨by decide, rfl⟩ (h64) rfl rfl (Nat.le_of_ble_eq_true rfl) (by first | decide | omega) (by decide) (by omega) (by omega) dX10_foretold_2 ?_
  refine hB bX10_foretold_5 _ _ _ _ _ _ _ kX10_foretold_5 ?_
  dsimp only [bX10_foretold_5, kx_wp, kx_step, kx_lI, kx_lL, kx_lA, kx_gl, kx_pI, kx_pL, kx_pR, kx_pA, kx_pV, kx_s1, kx_s2, kx_sl, kx_pre, kx_c2, kx_pl, kx_cmp, kx_oF, kx_eqN, kx_nil, kx_c1, kx_ft, kx_aI, kx_aL, kx_aR, kx_ln, Nat.reduceAdd, Option.toList, List.cons_append, List.nil_append, cf10_0, cf0_0, cf10_8, cf1_6, cf1_7, cf1_4]
  repeat (simp only [hk64, h64, h65, h70, nI_1, nI_add, ks_eq, ks_ss]; try dsimp only [kx_wp, kx_step, kx_lI, kx_lL, kx_lA, kx_gl, kx_pI, kx_pL, kx_pR, kx_pA, kx_pV, kx_s1, kx_s2, kx_sl, kx_pre, kx_c2, kx_pl, kx_cmp, kx_oF, kx_eqN, kx_nil, kx_c1, kx_ft, kx_aI, kx_aL, kx_aR, kx_ln, Nat.reduceAdd, Option.toList, List.cons_append, List.nil_append, cf10_0, cf0_0, cf10_8, cf1_6, cf1_7, cf1_4])
  repeat' apply And.intro
  all_goals try (first | with_reducible assumption | (with_reducible refine ck_nzI ?_; simp; done) | (with_reducible refine ck_nzL ?_; simp; done) | (with_reducible refine vp_in_nI ?_ ?_ <;> first | omega | decide) | (with_reducible refine Nat.le_of_ble_eq_true ?_; rfl) | omega | exact Or.inl trivial | exact Or.inr trivial | exact Or.inl rfl | exact Or.inr rfl)
  · intro zc9
    first | exact absurd rfl zc9 | exact absurd zc9 (by decide) | exact absurd (by decide) zc9 | (exfalso; first | exact absurd ((nI_ltI (a := k) (b := 1) (by omega) (by omega)).mp zc9) (by omega) | exact absurd ((nI_ltI (a := 3000) (b := k) (by omega) (by omega)).mp zc16) (by omega) | exact absurd zc20 (by decide) | exact absurd zc26 (by decide) | exact absurd ((nI_leI (a := mi + k) (b := mi + n) (by omega) (by omega)).mp zc81) (by omega) | exact absurd ((nI_leI (a := mi + k) (b := mi + n) (by omega) (by omega)).mpr (by omega)) zc81 | exact absurd ((nI_leI (a := mi + n) (b := mi + n) (by omega) (by omega)).mpr (by omega)) zc81) | (exfalso; simp_all; done)
  · intro zc9
    with_reducible first | have ze9 := Int32.not_lt.mp zc9 | have ze9 := zc9
    refine hB bX10_foretold_12 _ _ _ _ _ _ _ kX10_foretold_12 ?_
    dsimp only [bX10_foretold_12, kx_wp, kx_step, kx_lI, kx_lL, kx_lA, kx_gl, kx_pI, kx_pL, kx_pR, kx_pA, kx_pV, kx_s1, kx_s2, kx_sl, kx_pre, kx_c2, kx_pl, kx_cmp, kx_oF, kx_eqN, kx_nil, kx_c1, kx_ft, kx_aI, kx_aL, kx_aR, kx_ln, Nat.reduceAdd, Option.toList, List.cons_append, List.nil_append, cf10_0, cf0_0, cf10_8, cf1_6, cf1_7, cf1_4]
    repeat (simp only [hk64, h64, h65, h70, nI_1, nI_add, ks_eq, ks_ss]; try dsimp only [kx_wp, kx_step, kx_lI, kx_lL, kx_lA, kx_gl, kx_pI, kx_pL, kx_pR, kx_pA, kx_pV, kx_s1, kx_s2, kx_sl, kx_pre, kx_c2, kx_pl, kx_cmp, kx_oF, kx_eqN, kx_nil, kx_c1, kx_ft, kx_aI, kx_aL, kx_aR, kx_ln, Nat.reduceAdd, Option.toList, List.cons_append, List.nil_append, cf10_0, cf0_0, cf10_8, cf1_6, cf1_7, cf1_4])
    repeat' apply And.intro
    all_goals try (first | with_reducible assumption | (with_reducible refine ck_nzI ?_; simp; done) | (with_reducible refine ck_nzL ?_; simp; done) | (with_reducible refine vp_in_nI ?_ ?_ <;> first | omega | decide) | (with_reducible refine Nat.le_of_ble_eq_true ?_; rfl) | omega | exact Or.inl trivial | exact Or.inr trivial | exact Or.inl rfl | exact Or.inr rfl)
    · intro zc16
      first | exact absurd rfl zc16 | exact absurd zc16 (by decide) | exact absurd (by decide) zc16 | (exfalso; first | exact absurd ((nI_ltI (a := k) (b := 1) (by omega) (by omega)).mp zc9) (by omega) | exact absurd ((nI_ltI (a := 3000) (b := k) (by omega) (by omega)).mp zc16) (by omega) | exact absurd zc20 (by decide) | exact absurd zc26 (by decide) | exact absurd ((nI_leI (a := mi + k) (b := mi + n) (by omega) (by omega)).mp zc81) (by omega) | exact absurd ((nI_leI (a := mi + k) (b := mi + n) (by omega) (by omega)).mpr (by omega)) zc81 | exact absurd ((nI_leI (a := mi + n) (b := mi + n) (by omega) (by omega)).mpr (by omega)) zc81) | (exfalso; simp_all; done)
    · intro zc16
      with_reducible first | have ze16 := Int32.not_lt.mp zc16 | have ze16 := zc16
      refine hB bX10_foretold_19 _ _ _ _ _ _ _ kX10_foretold_19 ?_
      dsimp only [bX10_foretold_19, kx_wp, kx_step, kx_lI, kx_lL, kx_lA, kx_gl, kx_pI, kx_pL, kx_pR, kx_pA, kx_pV, kx_s1, kx_s2, kx_sl, kx_pre, kx_c2, kx_pl, kx_cmp, kx_oF, kx_eqN, kx_nil, kx_c1, kx_ft, kx_aI, kx_aL, kx_aR, kx_ln, Nat.reduceAdd, Option.toList, List.cons_append, List.nil_append, cf10_0, cf0_0, cf10_8, cf1_6, cf1_7, cf1_4]
      repeat (simp only [hk64, h64, h65, h70, nI_1, nI_add, ks_eq, ks_ss]; try dsimp only [kx_wp, kx_step, kx_lI, kx_lL, kx_lA, kx_gl, kx_pI, kx_pL, kx_pR, kx_pA, kx_pV, kx_s1, kx_s2, kx_sl, kx_pre, kx_c2, kx_pl, kx_cmp, kx_oF, kx_eqN, kx_nil, kx_c1, kx_ft, kx_aI, kx_aL, kx_aR, kx_ln, Nat.reduceAdd, Option.toList, List.cons_append, List.nil_append, cf10_0, cf0_0, cf10_8, cf1_6, cf1_7, cf1_4])
      repeat' apply And.intro
      all_goals try (first | with_reducible assumption | (with_reducible refine ck_nzI ?_; simp; done) | (with_reducible refine ck_nzL ?_; simp; done) | (with_reducible refine vp_in_nI ?_ ?_ <;> first | omega | decide) | (with_reducible refine Nat.le_of_ble_eq_true ?_; rfl) | omega | exact Or.inl trivial | exact Or.inr trivial | exact Or.inl rfl | exact Or.inr rfl)
      · intro zc20
        first | exact absurd rfl zc20 | exact absurd zc20 (by decide) | exact absurd (by decide) zc20 | (exfalso; first | exact absurd ((nI_ltI (a := k) (b := 1) (by omega) (by omega)).mp zc9) (by omega) | exact absurd ((nI_ltI (a := 3000) (b := k) (by omega) (by omega)).mp zc16) (by omega) | exact absurd zc20 (by decide) | exact absurd zc26 (by decide) | exact absurd ((nI_leI (a := mi + k) (b := mi + n) (by omega) (by omega)).mp zc81) (by omega) | exact absurd ((nI_leI (a := mi + k) (b := mi + n) (by omega) (by omega)).mpr (by omega)) zc81 | exact absurd ((nI_leI (a := mi + n) (b := mi + n) (by omega) (by omega)).mpr (by omega)) zc81) | (exfalso; simp_all; done)
      · intro zc20
        with_reducible first | have ze20 := Int32.not_lt.mp zc20 | have ze20 := zc20
        refine hB bX10_foretold_23 _ _ _ _ _ _ _ kX10_foretold_23 ?_
        dsimp only [bX10_foretold_23, kx_wp, kx_step, kx_lI, kx_lL, kx_lA, kx_gl, kx_pI, kx_pL, kx_pR, kx_pA, kx_pV, kx_s1, kx_s2, kx_sl, kx_pre, kx_c2, kx_pl, kx_cmp, kx_oF, kx_eqN, kx_nil, kx_c1, kx_ft, kx_aI, kx_aL, kx_aR, kx_ln, Nat.reduceAdd, Option.toList, List.cons_append, List.nil_append, cf10_0, cf0_0, cf10_8, cf1_6, cf1_7, cf1_4]
        repeat (simp only [hk64, h64, h65, h70, nI_1, nI_add, ks_eq, ks_ss]; try dsimp only [kx_wp, kx_step, kx_lI, kx_lL, kx_lA, kx_gl, kx_pI, kx_pL, kx_pR, kx_pA, kx_pV, kx_s1, kx_s2, kx_sl, kx_pre, kx_c2, kx_pl, kx_cmp, kx_oF, kx_eqN, kx_nil, kx_c1, kx_ft, kx_aI, kx_aL, kx_aR, kx_ln, Nat.reduceAdd, Option.toList, List.cons_append, List.nil_append, cf10_0, cf0_0, cf10_8, cf1_6, cf1_7, cf1_4])
        repeat' apply And.intro
        all_goals try (first | with_reducible assumption | (with_reducible refine ck_nzI ?_; simp; done) | (with_reducible refine ck_nzL ?_; simp; done) | (with_reducible refine vp_in_nI ?_ ?_ <;> first | omega | decide) | (with_reducible refine Nat.le_of_ble_eq_true ?_; rfl) | omega | exact Or.inl trivial | exact Or.inr trivial | exact Or.inl rfl | exact Or.inr rfl)
        · intro zc26
          first | exact absurd rfl zc26 | exact absurd zc26 (by decide) | exact absurd (by decide) zc26 | (exfalso; first | exact absurd ((nI_ltI (a := k) (b := 1) (by omega) (by omega)).mp zc9) (by omega) | exact absurd ((nI_ltI (a := 3000) (b := k) (by omega) (by omega)).mp zc16) (by omega) | exact absurd zc20 (by decide) | exact absurd zc26 (by decide) | exact absurd ((nI_leI (a := mi + k) (b := mi + n) (by omega) (by omega)).mp zc81) (by omega) | exact absurd ((nI_leI (a := mi + k) (b := mi + n) (by omega) (by omega)).mpr (by omega)) zc81 | exact absurd ((nI_leI (a := mi + n) (b := mi + n) (by omega) (by omega)).mpr (by omega)) zc81) | (exfalso; simp_all; done)
        · intro zc26
          with_reducible first | have ze26 := Int32.not_lt.mp zc26 | have ze26 := zc26
          refine hB bX10_foretold_29 _ _ _ _ _ _ _ kX10_foretold_29 ?_
          dsimp only [bX10_foretold_29, kx_wp, kx_step, kx_lI, kx_lL, kx_lA, kx_gl, kx_pI, kx_pL, kx_pR, kx_pA, kx_pV, kx_s1, kx_s2, kx_sl, kx_pre, kx_c2, kx_pl, kx_cmp, kx_oF, kx_eqN, kx_nil, kx_c1, kx_ft, kx_aI, kx_aL, kx_aR, kx_ln, Nat.reduceAdd, Option.toList, List.cons_append, List.nil_append, cf10_0, cf0_0, cf10_8, cf1_6, cf1_7, cf1_4]
          repeat (simp only [hk64, h64, h65, h70, nI_1, nI_add, ks_eq, ks_ss]; try dsimp only [kx_wp, kx_step, kx_lI, kx_lL, kx_lA, kx_gl, kx_pI, kx_pL, kx_pR, kx_pA, kx_pV, kx_s1, kx_s2, kx_sl, kx_pre, kx_c2, kx_pl, kx_cmp, kx_oF, kx_eqN, kx_nil, kx_c1, kx_ft, kx_aI, kx_aL, kx_aR, kx_ln, Nat.reduceAdd, Option.toList, List.cons_append, List.nil_append, cf10_0, cf0_0, cf10_8, cf1_6, cf1_7, cf1_4])
          repeat' apply And.intro
          all_goals try (first | with_reducible assumption | (with_reducible refine ck_nzI ?_; simp; done) | (with_reducible refine ck_nzL ?_; simp; done) | (with_reducible refine vp_in_nI ?_ ?_ <;> first | omega | decide) | (with_reducible refine Nat.le_of_ble_eq_true ?_; rfl) | omega | exact Or.inl trivial | exact Or.inr trivial | exact Or.inl rfl | exact Or.inr rfl)
          refine hC.2.1 95 _ _ _ _ _ _ _ _ _ _ _ _ _ _ _ _ _ lX10_95 (ct_X10_need l G (b := 1) (by decide)) rfl rfl (Nat.le_of_ble_eq_true rfl) (by first | decide | omega) (by decide) (by omega) (by omega) dX10_foretold_34 ?_
          refine hB bX10_foretold_37 _ _ _ _ _ _ _ kX10_foretold_37 ?_
          dsimp only [bX10_foretold_37, kx_wp, kx_step, kx_lI, kx_lL, kx_lA, kx_gl, kx_pI, kx_pL, kx_pR, kx_pA, kx_pV, kx_s1, kx_s2, kx_sl, kx_pre, kx_c2, kx_pl, kx_cmp, kx_oF, kx_eqN, kx_nil, kx_c1, kx_ft, kx_aI, kx_aL, kx_aR, kx_ln, Nat.reduceAdd, Option.toList, List.cons_append, List.nil_append, cf10_0, cf0_0, cf10_8, cf1_6, cf1_7, cf1_4]
          repeat (simp only [hk64, h64, h65, h70, nI_1, nI_add, ks_eq, ks_ss, al0]; try dsimp only [kx_wp, kx_step, kx_lI, kx_lL, kx_lA, kx_gl, kx_pI, kx_pL, kx_pR, kx_pA, kx_pV, kx_s1, kx_s2, kx_sl, kx_pre, kx_c2, kx_pl, kx_cmp, kx_oF, kx_eqN, kx_nil, kx_c1, kx_ft, kx_aI, kx_aL, kx_aR, kx_ln, Nat.reduceAdd, Option.toList, List.cons_append, List.nil_append, cf10_0, cf0_0, cf10_8, cf1_6, cf1_7, cf1_4])
          repeat' apply And.intro
          all_goals try (first | with_reducible assumption | (with_reducible refine ck_nzI ?_; simp; done) | (with_reducible refine ck_nzL ?_; simp; done) | (with_reducible refine vp_in_nI ?_ ?_ <;> first | omega | decide) | (with_reducible refine Nat.le_of_ble_eq_true ?_; rfl) | omega | exact Or.inl trivial | exact Or.inr trivial | exact Or.inl rfl | exact Or.inr rfl)
          refine hC.2.1 132 _ _ _ _ _ _ _ _ _ _ _ _ _ _ _ _ _ lX10_132 (ct_X10_needMinute l G (m := nI (mi + k)) ((nI_leI (a := mi + k) (b := 100000) (by omega) (by omega)).mpr hmk)) rfl rfl (Nat.le_of_ble_eq_true rfl) (by first | decide | omega) (by decide) (by omega) (by omega) dX10_foretold_50 ?_
          refine hB bX10_foretold_53 _ _ _ _ _ _ _ kX10_foretold_53 ?_
          dsimp only [bX10_foretold_53, kx_wp, kx_step, kx_lI, kx_lL, kx_lA, kx_gl, kx_pI, kx_pL, kx_pR, kx_pA, kx_pV, kx_s1, kx_s2, kx_sl, kx_pre, kx_c2, kx_pl, kx_cmp, kx_oF, kx_eqN, kx_nil, kx_c1, kx_ft, kx_aI, kx_aL, kx_aR, kx_ln, Nat.reduceAdd, Option.toList, List.cons_append, List.nil_append, cf10_0, cf0_0, cf10_8, cf1_6, cf1_7, cf1_4]
          repeat (simp only [hk64, h64, h65, h70, nI_1, nI_add, ks_eq, ks_ss]; try dsimp only [kx_wp, kx_step, kx_lI, kx_lL, kx_lA, kx_gl, kx_pI, kx_pL, kx_pR, kx_pA, kx_pV, kx_s1, kx_s2, kx_sl, kx_pre, kx_c2, kx_pl, kx_cmp, kx_oF, kx_eqN, kx_nil, kx_c1, kx_ft, kx_aI, kx_aL, kx_aR, kx_ln, Nat.reduceAdd, Option.toList, List.cons_append, List.nil_append, cf10_0, cf0_0, cf10_8, cf1_6, cf1_7, cf1_4])
          repeat' apply And.intro
          all_goals try (first | with_reducible assumption | (with_reducible refine ck_nzI ?_; simp; done) | (with_reducible refine ck_nzL ?_; simp; done) | (with_reducible refine vp_in_nI ?_ ?_ <;> first | omega | decide) | (with_reducible refine Nat.le_of_ble_eq_true ?_; rfl) | omega | exact Or.inl trivial | exact Or.inr trivial | exact Or.inl rfl | exact Or.inr rfl)
          refine hC.1 326 _ _ _ _ _ _ _ 1 _ _ _ _ _ _ _ _ _ _ _ _ lX10_326 (hb9) ⟨by decide, rfl⟩ (h70) rfl rfl (Nat.le_of_ble_eq_true rfl) (by first | decide | omega) (by decide) (by omega) (by omega) dX10_foretold_59 ?_
          refine hB bX10_foretold_62 _ _ _ _ _ _ _ kX10_foretold_62 ?_
          dsimp only [bX10_foretold_62, kx_wp, kx_step, kx_lI, kx_lL, kx_lA, kx_gl, kx_pI, kx_pL, kx_pR, kx_pA, kx_pV, kx_s1, kx_s2, kx_sl, kx_pre, kx_c2, kx_pl, kx_cmp, kx_oF, kx_eqN, kx_nil, kx_c1, kx_ft, kx_aI, kx_aL, kx_aR, kx_ln, Nat.reduceAdd, Option.toList, List.cons_append, List.nil_append, cf10_0, cf0_0, cf10_8, cf1_6, cf1_7, cf1_4]
          repeat (simp only [hk64, h64, h65, h70, nI_1, nI_add, ks_eq, ks_ss, h64', h65', al0]; try dsimp only [kx_wp, kx_step, kx_lI, kx_lL, kx_lA, kx_gl, kx_pI, kx_pL, kx_pR, kx_pA, kx_pV, kx_s1, kx_s2, kx_sl, kx_pre, kx_c2, kx_pl, kx_cmp, kx_oF, kx_eqN, kx_nil, kx_c1, kx_ft, kx_aI, kx_aL, kx_aR, kx_ln, Nat.reduceAdd, Option.toList, List.cons_append, List.nil_append, cf10_0, cf0_0, cf10_8, cf1_6, cf1_7, cf1_4])
          repeat' apply And.intro
          all_goals try (first | with_reducible assumption | (with_reducible refine ck_nzI ?_; simp; done) | (with_reducible refine ck_nzL ?_; simp; done) | (with_reducible refine vp_in_nI ?_ ?_ <;> first | omega | decide) | (with_reducible refine Nat.le_of_ble_eq_true ?_; rfl) | omega | exact Or.inl trivial | exact Or.inr trivial | exact Or.inl rfl | exact Or.inr rfl)
          have h0 := fun a => loop77 k 0 S0 _ _ a (by omega) (show cF (ck_mns FF cl 0) V T Q Fo St Al _ (L 116 c) c (mi + 0) by rw [hm0]; exact hF0) (by rw [hm0]; exact h94)
          rw [hm0, e51, e52, Nat.add_zero] at h0
          rw [← hP5] at h0
          exact h0 _

set_option maxRecDepth 100000 in
set_option maxHeartbeats 4000000 in
theorem ct_X10_foretold_4 (l : Launch) (G : kx_G) {P : kx_P} {sz : Nat} {M : Nat → Int32} {A : Nat → Nat → Int32} {L : Nat → Nat → Int64} {cl mi sd se : Nat} {bl : Nat → Nat} (hst : cR_st P M A cl se bl) (hdy : cR_dy P A L cl se sz bl (fun _ => mi)) (hm : cR_m M A L cl mi sd) {c k : Nat} (hc : c < cl) (hk1 : 1 ≤ k) (hk2 : k ≤ 3000) (hmk : mi + k ≤ 100000)  : kx_Mn l G sX10_foretold 9 0 0 [.ref 64, .int (nI c), .int (nI k), .int (4)] P sz (fun r P2 s2 => r = some (.int (ck_seenV (ck_mns (ck_fS M A L cl c) cl k) c 4)) ∧ s2 = sz ∧ cR_af P P2 (M, A, L) cl mi se sz bl) := by
  have hcl : cl ≤ 8 := hm.2.2.1
  have haf := fun S1 C1 d gh => cR_af_g hst hdy hm hc S1 C1 d gh
  obtain ⟨⟨K, h64, -, -, hK7, -, -⟩, ⟨Al, h65, al0, al1, al3⟩, p66, -, -, h69, ⟨gv, gd, gh, Cg, h70⟩, -, -, -, -, -, -, -, -, -, -, -, -, -, -, p1, -⟩ := id hst
  rw [hm.2.1] at hK7
  rw [hm.2.2.2.1] at al0
  obtain ⟨V, T, Q, Fo, St, S0, C, Kp, c1, c2, c3, c4, c5, c6⟩ := hdy.2.1 c hc
  have b1 := hdy.1.w hcl hc
  have b2 := hdy.1.c hcl hc
  have b3 := hdy.1.wc hcl hc hc
  have H : cx_R P 70 (bl c) V T Q Fo St Al (A 94) := ⟨b1.2.1, by decide, by omega, by decide, by decide, c1.1, c1.2.1, c1.2.2.1, c1.2.2.2.1, c1.2.2.2.2.1, h65, p66, p1⟩
  obtain ⟨hF0, h94⟩ := cF_0 (P := P) (C1 := upd (upd (upd (upd (upd (upd (upd Cg 4 (C 4)) 5 (C 5)) 6 (C 6)) 7 (C 7)) 8 (C 8)) 9 (C 9)) 10 (C 10)) hm hc c4 c5 al1 al3 (Or.inr ⟨Cg, rfl⟩)
  have hms : ∀ n, ck_mns (ck_fS M A L cl c) cl (n + 1) = ck_mn (ck_mns (ck_fS M A L cl c) cl n) cl := fun _ => rfl
  have hm0 : ck_mns (ck_fS M A L cl c) cl 0 = ck_fS M A L cl c := rfl
  have e51 : (ck_fS M A L cl c).1 51 = 0 := rfl
  have e52 : (ck_fS M A L cl c).1 52 = 0 := rfl
  have hk64 : ∀ S d C, cW P 70 (bl c) S d gh C 64 = kO 10 (kf (cr10 (cR_sv (bl 16))) K) := fun S d C => (cW_o (by decide) (by omega)).trans h64
  have hb9 := ct_X1_become l G (sz := sz) (b := 70) (c := bl (8 + c)) h70 c2 (by omega) (by decide)
  obtain ⟨P5, hP5⟩ : ∃ P5, P5 = cW P 70 (bl c) S0 (L 116 c) gh (upd (upd (upd (upd (upd (upd (upd Cg 4 (C 4)) 5 (C 5)) 6 (C 6)) 7 (C 7)) 8 (C 8)) 9 (C 9)) 10 (C 10)) := ⟨_, rfl⟩
  have hw5 : kx_set P 70 (kO 1 (kf (cr1 (.ref (bl c)) (L 116 c) gh) (upd (upd (upd (upd (upd (upd (upd Cg 4 (C 4)) 5 (C 5)) 6 (C 6)) 7 (C 7)) 8 (C 8)) 9 (C 9)) 10 (C 10)))) = P5 := by
    rw [hP5]; unfold cW; rw [ks_id (P := P) c1.2.2.2.2.2]
  rw [hw5] at hb9
  have h65' : P5 65 = kO 0 (kf cr0 Al) := by rw [hP5, cW_o (by decide) (by omega)]; exact h65
  have h64' : P5 64 = kO 10 (kf (cr10 (cR_sv (bl 16))) K) := by rw [hP5]; exact hk64 _ _ _
  generalize ck_fS M A L cl c = FF at hF0 h94 hms hm0 e51 e52
  refine kx_mkn kx_tab kxLok_X10 (ini := false) [some (.ref 64), some (.int (nI c)), some (.int (nI k)), some (.int (4)), none, none, none, none, none, none] ⟨by decide, rfl, by decide, by decide⟩ (fun _ _ _ h => ⟨_, h.1⟩) rfl rfl (fun g hB hC hN => ?_)
  have loop77 : ∀ (n9 : Nat) (n : Nat) (S1 C1 : Nat → Int32) (d : Int64) (a : Option Value), n + n9 = k → cF (ck_mns FF cl n) V T Q Fo St Al C1 d c (mi + n) → (ck_mns FF cl n).2.1 94 = A 94 → g 77 [some (.ref 64), some (.int (nI c)), some (.int (nI k)), some (.int 4), some (.ref (bl (8 + c))), some (.int (nI (mi + k))), some (.int ((ck_mns FF cl n).1 51)), some (.int ((ck_mns FF cl n).1 52)), some (.int (nI (mi + n))), a] [] (cW P 70 (bl c) S1 d gh C1) sz 0 0 := by
    intro n9
    induction n9 with
    | zero =>
      intro n S1 C1 d a hnk hF h94n
      · obtain rfl : n = k := by omega
        have hres : ck_seenV (ck_mns FF cl n) c 4 = C1 4 := hF.2.2.2.2.2.2.2.2.2.2.1.symm
        refine hB bX10_foretold_77 _ _ _ _ _ _ _ kX10_foretold_77 ?_
        dsimp only [bX10_foretold_77, kx_wp, kx_step, kx_lI, kx_lL, kx_lA, kx_gl, kx_pI, kx_pL, kx_pR, kx_pA, kx_pV, kx_s1, kx_s2, kx_sl, kx_pre, kx_c2, kx_pl, kx_cmp, kx_oF, kx_eqN, kx_nil, kx_c1, kx_ft, kx_aI, kx_aL, kx_aR, kx_ln, Nat.reduceAdd, Option.toList, List.cons_append, List.nil_append, cf10_0, cf0_0, cf10_8, cf1_6, cf1_7, cf1_4]
        repeat (simp only [hk64, h64, h65, h70, nI_1, nI_add, ks_eq, ks_ss]; try dsimp only [kx_wp, kx_step, kx_lI, kx_lL, kx_lA, kx_gl, kx_pI, kx_pL, kx_pR, kx_pA, kx_pV, kx_s1, kx_s2, kx_sl, kx_pre, kx_c2, kx_pl, kx_cmp, kx_oF, kx_eqN, kx_nil, kx_c1, kx_ft, kx_aI, kx_aL, kx_aR, kx_ln, Nat.reduceAdd, Option.toList, List.cons_append, List.nil_append, cf10_0, cf0_0, cf10_8, cf1_6, cf1_7, cf1_4])
        repeat' apply And.intro
        all_goals try (first | with_reducible assumption | (with_reducible refine ck_nzI ?_; simp; done) | (with_reducible refine ck_nzL ?_; simp; done) | (with_reducible refine vp_in_nI ?_ ?_ <;> first | omega | decide) | (with_reducible refine Nat.le_of_ble_eq_true ?_; rfl) | omega | exact Or.inl trivial | exact Or.inr trivial | exact Or.inl rfl | exact Or.inr rfl)
        · intro zc81
          with_reducible first | have ze81 := Int32.not_lt.mpr zc81 | have ze81 := zc81
          refine hB bX10_foretold_134 _ _ _ _ _ _ _ kX10_foretold_134 ?_
          dsimp only [bX10_foretold_134, kx_wp, kx_step, kx_lI, kx_lL, kx_lA, kx_gl, kx_pI, kx_pL, kx_pR, kx_pA, kx_pV, kx_s1, kx_s2, kx_sl, kx_pre, kx_c2, kx_pl, kx_cmp, kx_oF, kx_eqN, kx_nil, kx_c1, kx_ft, kx_aI, kx_aL, kx_aR, kx_ln, Nat.reduceAdd, Option.toList, List.cons_append, List.nil_append, cf10_0, cf0_0, cf10_8, cf1_6, cf1_7, cf1_4]
          repeat (simp only [hk64, h64, h65, h70, nI_1, nI_add, ks_eq, ks_ss]; try dsimp only [kx_wp, kx_step, kx_lI, kx_lL, kx_lA, kx_gl, kx_pI, kx_pL, kx_pR, kx_pA, kx_pV, kx_s1, kx_s2, kx_sl, kx_pre, kx_c2, kx_pl, kx_cmp, kx_oF, kx_eqN, kx_nil, kx_c1, kx_ft, kx_aI, kx_aL, kx_aR, kx_ln, Nat.reduceAdd, Option.toList, List.cons_append, List.nil_append, cf10_0, cf0_0, cf10_8, cf1_6, cf1_7, cf1_4])
          repeat' apply And.intro
          all_goals try (first | with_reducible assumption | (with_reducible refine ck_nzI ?_; simp; done) | (with_reducible refine ck_nzL ?_; simp; done) | (with_reducible refine vp_in_nI ?_ ?_ <;> first | omega | decide) | (with_reducible refine Nat.le_of_ble_eq_true ?_; rfl) | omega | exact Or.inl trivial | exact Or.inr trivial | exact Or.inl rfl | exact Or.inr rfl)
          · exact fun zc135 => absurd zc135 (by decide)
          refine kx_sw (ws := [172, 182, 190, 198, 206, 214]) rfl ?_
          dsimp only [kx_swl]
          refine ⟨fun zc135_0 => absurd zc135_0 (by decide), fun zc135_1 => absurd zc135_1 (by decide), fun zc135_2 => absurd zc135_2 (by decide), fun zc135_3 => absurd zc135_3 (by decide), fun zc135_4 => ?_, fun zc135_5 => absurd zc135_5 (by decide), trivial⟩
          refine hB bX10_foretold_206 _ _ _ _ _ _ _ kX10_foretold_206 ?_
          dsimp only [bX10_foretold_206, kx_wp, kx_step, kx_lI, kx_lL, kx_lA, kx_gl, kx_pI, kx_pL, kx_pR, kx_pA, kx_pV, kx_s1, kx_s2, kx_sl, kx_pre, kx_c2, kx_pl, kx_cmp, kx_oF, kx_eqN, kx_nil, kx_c1, kx_ft, kx_aI, kx_aL, kx_aR, kx_ln, Nat.reduceAdd, Option.toList, List.cons_append, List.nil_append, cf10_0, cf0_0, cf10_8, cf1_6, cf1_7, cf1_4]
          repeat (simp only [hk64, h64, h65, h70, nI_1, nI_add, ks_eq, ks_ss, cW_c]; try dsimp only [kx_wp, kx_step, kx_lI, kx_lL, kx_lA, kx_gl, kx_pI, kx_pL, kx_pR, kx_pA, kx_pV, kx_s1, kx_s2, kx_sl, kx_pre, kx_c2, kx_pl, kx_cmp, kx_oF, kx_eqN, kx_nil, kx_c1, kx_ft, kx_aI, kx_aL, kx_aR, kx_ln, Nat.reduceAdd, Option.toList, List.cons_append, List.nil_append, cf10_0, cf0_0, cf10_8, cf1_6, cf1_7, cf1_4])
          all_goals (repeat' apply And.intro)
          all_goals ((try clear hB hC hN); first | exact True.intro | rfl | (rw [hres]; done) | exact haf _ _ _ _ | decide)
        · intro zc81
          first | exact absurd rfl zc81 | exact absurd zc81 (by decide) | exact absurd (by decide) zc81 | (exfalso; first | exact absurd ((nI_ltI (a := k) (b := 1) (by omega) (by omega)).mp zc9) (by omega) | exact absurd ((nI_ltI (a := 3000) (b := k) (by omega) (by omega)).mp zc16) (by omega) | exact absurd zc20 (by decide) | exact absurd zc26 (by decide) | exact absurd ((nI_leI (a := mi + k) (b := mi + n) (by omega) (by omega)).mp zc81) (by omega) | exact absurd ((nI_leI (a := mi + k) (b := mi + n) (by omega) (by omega)).mpr (by omega)) zc81 | exact absurd ((nI_leI (a := mi + n) (b := mi + n) (by omega) (by omega)).mpr (by omega)) zc81) | (exfalso; simp_all; done)
    | succ n9 ih =>
      intro n S1 C1 d a hnk hF h94n
      · have hk2 : n < k := by omega
        obtain ⟨lf, a9, mo, hf, hd9, ha9, h6, hlf, hmo, hmo2, hstep⟩ := cF_s hF hc hcl (show mi + n < 100000 by omega)
        obtain ⟨S2, d2, C2, he⟩ : ∃ S2 d2 C2, cx_gm V T Q (fun j => (ck_mns FF cl n).2.1 106 (400 * c + j)) (fun j => (ck_mns FF cl n).2.1 107 (400 * c + j)) S1 C1 ((ck_mns FF cl n).2.1 105 c).toNatClampNeg (Al 1) lf a9 mo = (S2, d2, C2) := ⟨_, _, _, rfl⟩
        obtain ⟨hF2, h942, h52, hle, hgt⟩ := hstep S1 S2 d2 C2 he
        rw [← hms] at hF2 h942 h52 hle hgt
        rw [h94n] at hmo h942
        have hg9 := ct_X1_goMinute l G (sz := sz) H (S := S1) (C := C1) (d := d) (h := gh) hf (mi := mi + n) (by omega) hd9 ha9 h6 hlf hmo hmo2
        rw [he] at hg9
        dsimp only at hg9
        have hr9 := ct_X1_heardStrokes l G (sz := sz) (c := 70) (cW_c (P := P) (w := bl c) (S := S2) (C := C2) (d := d2) (h := gh))
        have hk65 : cW P 70 (bl c) S1 d gh C1 65 = kO 0 (kf cr0 Al) := (cW_o (by decide) (by omega)).trans h65
        refine hB bX10_foretold_77 _ _ _ _ _ _ _ kX10_foretold_77 ?_
        dsimp only [bX10_foretold_77, kx_wp, kx_step, kx_lI, kx_lL, kx_lA, kx_gl, kx_pI, kx_pL, kx_pR, kx_pA, kx_pV, kx_s1, kx_s2, kx_sl, kx_pre, kx_c2, kx_pl, kx_cmp, kx_oF, kx_eqN, kx_nil, kx_c1, kx_ft, kx_aI, kx_aL, kx_aR, kx_ln, Nat.reduceAdd, Option.toList, List.cons_append, List.nil_append, cf10_0, cf0_0, cf10_8, cf1_6, cf1_7, cf1_4]
        repeat (simp only [hk64, h64, h65, h70, nI_1, nI_add, ks_eq, ks_ss]; try dsimp only [kx_wp, kx_step, kx_lI, kx_lL, kx_lA, kx_gl, kx_pI, kx_pL, kx_pR, kx_pA, kx_pV, kx_s1, kx_s2, kx_sl, kx_pre, kx_c2, kx_pl, kx_cmp, kx_oF, kx_eqN, kx_nil, kx_c1, kx_ft, kx_aI, kx_aL, kx_aR, kx_ln, Nat.reduceAdd, Option.toList, List.cons_append, List.nil_append, cf10_0, cf0_0, cf10_8, cf1_6, cf1_7, cf1_4])
        repeat' apply And.intro
        all_goals try (first | with_reducible assumption | (with_reducible refine ck_nzI ?_; simp; done) | (with_reducible refine ck_nzL ?_; simp; done) | (with_reducible refine vp_in_nI ?_ ?_ <;> first | omega | decide) | (with_reducible refine Nat.le_of_ble_eq_true ?_; rfl) | omega | exact Or.inl trivial | exact Or.inr trivial | exact Or.inl rfl | exact Or.inr rfl)
        · intro zc81
          first | exact absurd rfl zc81 | exact absurd zc81 (by decide) | exact absurd (by decide) zc81 | (exfalso; first | exact absurd ((nI_ltI (a := k) (b := 1) (by omega) (by omega)).mp zc9) (by omega) | exact absurd ((nI_ltI (a := 3000) (b := k) (by omega) (by omega)).mp zc16) (by omega) | exact absurd zc20 (by decide) | exact absurd zc26 (by decide) | exact absurd ((nI_leI (a := mi + k) (b := mi + n) (by omega) (by omega)).mp zc81) (by omega) | exact absurd ((nI_leI (a := mi + k) (b := mi + n) (by omega) (by omega)).mpr (by omega)) zc81 | exact absurd ((nI_leI (a := mi + n) (b := mi + n) (by omega) (by omega)).mpr (by omega)) zc81) | (exfalso; simp_all; done)
        · intro zc81
          with_reducible first | have ze81 := Int32.not_le.mp zc81 | have ze81 := zc81
          refine hB bX10_foretold_84 _ _ _ _ _ _ _ kX10_foretold_84 ?_
          dsimp only [bX10_foretold_84, kx_wp, kx_step, kx_lI, kx_lL, kx_lA, kx_gl, kx_pI, kx_pL, kx_pR, kx_pA, kx_pV, kx_s1, kx_s2, kx_sl, kx_pre, kx_c2, kx_pl, kx_cmp, kx_oF, kx_eqN, kx_nil, kx_c1, kx_ft, kx_aI, kx_aL, kx_aR, kx_ln, Nat.reduceAdd, Option.toList, List.cons_append, List.nil_append, cf10_0, cf0_0, cf10_8, cf1_6, cf1_7, cf1_4]
          repeat (simp only [hk64, h64, h65, h70, nI_1, nI_add, ks_eq, ks_ss]; try dsimp only [kx_wp, kx_step, kx_lI, kx_lL, kx_lA, kx_gl, kx_pI, kx_pL, kx_pR, kx_pA, kx_pV, kx_s1, kx_s2, kx_sl, kx_pre, kx_c2, kx_pl, kx_cmp, kx_oF, kx_eqN, kx_nil, kx_c1, kx_ft, kx_aI, kx_aL, kx_aR, kx_ln, Nat.reduceAdd, Option.toList, List.cons_append, List.nil_append, cf10_0, cf0_0, cf10_8, cf1_6, cf1_7, cf1_4])
          repeat' apply And.intro
          all_goals try (first | with_reducible assumption | (with_reducible refine ck_nzI ?_; simp; done) | (with_reducible refine ck_nzL ?_; simp; done) | (with_reducible refine vp_in_nI ?_ ?_ <;> first | omega | decide) | (with_reducible refine Nat.le_of_ble_eq_true ?_; rfl) | omega | exact Or.inl trivial | exact Or.inr trivial | exact Or.inl rfl | exact Or.inr rfl)
          refine hC.1 330 _ _ _ _ _ _ _ 1 _ _ _ _ _ _ _ _ _ _ _ _ lX10_330 (hg9) ⟨by decide, rfl⟩ (cW_c) rfl rfl (Nat.le_of_ble_eq_true rfl) (by first | decide | omega) (by decide) (by omega) (by omega) dX10_foretold_94 ?_
          refine hB bX10_foretold_97 _ _ _ _ _ _ _ kX10_foretold_97 ?_
          dsimp only [bX10_foretold_97, kx_wp, kx_step, kx_lI, kx_lL, kx_lA, kx_gl, kx_pI, kx_pL, kx_pR, kx_pA, kx_pV, kx_s1, kx_s2, kx_sl, kx_pre, kx_c2, kx_pl, kx_cmp, kx_oF, kx_eqN, kx_nil, kx_c1, kx_ft, kx_aI, kx_aL, kx_aR, kx_ln, Nat.reduceAdd, Option.toList, List.cons_append, List.nil_append, cf10_0, cf0_0, cf10_8, cf1_6, cf1_7, cf1_4]
          repeat (simp only [hk64, h64, h65, h70, nI_1, nI_add, ks_eq, ks_ss]; try dsimp only [kx_wp, kx_step, kx_lI, kx_lL, kx_lA, kx_gl, kx_pI, kx_pL, kx_pR, kx_pA, kx_pV, kx_s1, kx_s2, kx_sl, kx_pre, kx_c2, kx_pl, kx_cmp, kx_oF, kx_eqN, kx_nil, kx_c1, kx_ft, kx_aI, kx_aL, kx_aR, kx_ln, Nat.reduceAdd, Option.toList, List.cons_append, List.nil_append, cf10_0, cf0_0, cf10_8, cf1_6, cf1_7, cf1_4])
          repeat' apply And.intro
          all_goals try (first | with_reducible assumption | (with_reducible refine ck_nzI ?_; simp; done) | (with_reducible refine ck_nzL ?_; simp; done) | (with_reducible refine vp_in_nI ?_ ?_ <;> first | omega | decide) | (with_reducible refine Nat.le_of_ble_eq_true ?_; rfl) | omega | exact Or.inl trivial | exact Or.inr trivial | exact Or.inl rfl | exact Or.inr rfl)
          refine hC.1 334 _ _ _ _ _ _ _ 1 _ _ _ _ _ _ _ _ _ _ _ _ lX10_334 (hr9) ⟨by decide, rfl⟩ (cW_c) rfl rfl (Nat.le_of_ble_eq_true rfl) (by first | decide | omega) (by decide) (by omega) (by omega) dX10_foretold_101 ?_
          refine hB bX10_foretold_104 _ _ _ _ _ _ _ kX10_foretold_104 ?_
          dsimp only [bX10_foretold_104, kx_wp, kx_step, kx_lI, kx_lL, kx_lA, kx_gl, kx_pI, kx_pL, kx_pR, kx_pA, kx_pV, kx_s1, kx_s2, kx_sl, kx_pre, kx_c2, kx_pl, kx_cmp, kx_oF, kx_eqN, kx_nil, kx_c1, kx_ft, kx_aI, kx_aL, kx_aR, kx_ln, Nat.reduceAdd, Option.toList, List.cons_append, List.nil_append, cf10_0, cf0_0, cf10_8, cf1_6, cf1_7, cf1_4]
          repeat (simp only [hk64, h64, h65, h70, nI_1, nI_add, ks_eq, ks_ss]; try dsimp only [kx_wp, kx_step, kx_lI, kx_lL, kx_lA, kx_gl, kx_pI, kx_pL, kx_pR, kx_pA, kx_pV, kx_s1, kx_s2, kx_sl, kx_pre, kx_c2, kx_pl, kx_cmp, kx_oF, kx_eqN, kx_nil, kx_c1, kx_ft, kx_aI, kx_aL, kx_aR, kx_ln, Nat.reduceAdd, Option.toList, List.cons_append, List.nil_append, cf10_0, cf0_0, cf10_8, cf1_6, cf1_7, cf1_4])
          repeat' apply And.intro
          all_goals try (first | with_reducible assumption | (with_reducible refine ck_nzI ?_; simp; done) | (with_reducible refine ck_nzL ?_; simp; done) | (with_reducible refine vp_in_nI ?_ ?_ <;> first | omega | decide) | (with_reducible refine Nat.le_of_ble_eq_true ?_; rfl) | omega | exact Or.inl trivial | exact Or.inr trivial | exact Or.inl rfl | exact Or.inr rfl)
          · intro zc110
            with_reducible first | have ze110 := Int32.not_lt.mpr zc110 | have ze110 := zc110
            refine hB bX10_foretold_117 _ _ _ _ _ _ _ kX10_foretold_117 ?_
            dsimp only [bX10_foretold_117, kx_wp, kx_step, kx_lI, kx_lL, kx_lA, kx_gl, kx_pI, kx_pL, kx_pR, kx_pA, kx_pV, kx_s1, kx_s2, kx_sl, kx_pre, kx_c2, kx_pl, kx_cmp, kx_oF, kx_eqN, kx_nil, kx_c1, kx_ft, kx_aI, kx_aL, kx_aR, kx_ln, Nat.reduceAdd, Option.toList, List.cons_append, List.nil_append, cf10_0, cf0_0, cf10_8, cf1_6, cf1_7, cf1_4]
            repeat (simp only [hk64, h64, h65, h70, nI_1, nI_add, ks_eq, ks_ss]; try dsimp only [kx_wp, kx_step, kx_lI, kx_lL, kx_lA, kx_gl, kx_pI, kx_pL, kx_pR, kx_pA, kx_pV, kx_s1, kx_s2, kx_sl, kx_pre, kx_c2, kx_pl, kx_cmp, kx_oF, kx_eqN, kx_nil, kx_c1, kx_ft, kx_aI, kx_aL, kx_aR, kx_ln, Nat.reduceAdd, Option.toList, List.cons_append, List.nil_append, cf10_0, cf0_0, cf10_8, cf1_6, cf1_7, cf1_4])
            repeat' apply And.intro
            all_goals try (first | with_reducible assumption | (with_reducible refine ck_nzI ?_; simp; done) | (with_reducible refine ck_nzL ?_; simp; done) | (with_reducible refine vp_in_nI ?_ ?_ <;> first | omega | decide) | (with_reducible refine Nat.le_of_ble_eq_true ?_; rfl) | omega | exact Or.inl trivial | exact Or.inr trivial | exact Or.inl rfl | exact Or.inr rfl)
            refine hB bX10_foretold_118 _ _ _ _ _ _ _ kX10_foretold_118 ?_
            dsimp only [bX10_foretold_118, kx_wp, kx_step, kx_lI, kx_lL, kx_lA, kx_gl, kx_pI, kx_pL, kx_pR, kx_pA, kx_pV, kx_s1, kx_s2, kx_sl, kx_pre, kx_c2, kx_pl, kx_cmp, kx_oF, kx_eqN, kx_nil, kx_c1, kx_ft, kx_aI, kx_aL, kx_aR, kx_ln, Nat.reduceAdd, Option.toList, List.cons_append, List.nil_append, cf10_0, cf0_0, cf10_8, cf1_6, cf1_7, cf1_4]
            repeat (simp only [hk64, h64, h65, h70, nI_1, nI_add, ks_eq, ks_ss]; try dsimp only [kx_wp, kx_step, kx_lI, kx_lL, kx_lA, kx_gl, kx_pI, kx_pL, kx_pR, kx_pA, kx_pV, kx_s1, kx_s2, kx_sl, kx_pre, kx_c2, kx_pl, kx_cmp, kx_oF, kx_eqN, kx_nil, kx_c1, kx_ft, kx_aI, kx_aL, kx_aR, kx_ln, Nat.reduceAdd, Option.toList, List.cons_append, List.nil_append, cf10_0, cf0_0, cf10_8, cf1_6, cf1_7, cf1_4])
            repeat' apply And.intro
            all_goals try (first | with_reducible assumption | (with_reducible refine ck_nzI ?_; simp; done) | (with_reducible refine ck_nzL ?_; simp; done) | (with_reducible refine vp_in_nI ?_ ?_ <;> first | omega | decide) | (with_reducible refine Nat.le_of_ble_eq_true ?_; rfl) | omega | exact Or.inl trivial | exact Or.inr trivial | exact Or.inl rfl | exact Or.inr rfl)
            have hih := fun a => ih (n + 1) S2 C2 d2 a (by omega) hF2 h942
            rw [h52, show mi + (n + 1) = mi + n + 1 from rfl] at hih
            first | (rw [hle zc110] at hih; exact hih _) | (rw [hgt zc110] at hih; exact hih _)
          · intro zc110
            with_reducible first | have ze110 := Int32.not_le.mp zc110 | have ze110 := zc110
            refine hB bX10_foretold_113 _ _ _ _ _ _ _ kX10_foretold_113 ?_
            dsimp only [bX10_foretold_113, kx_wp, kx_step, kx_lI, kx_lL, kx_lA, kx_gl, kx_pI, kx_pL, kx_pR, kx_pA, kx_pV, kx_s1, kx_s2, kx_sl, kx_pre, kx_c2, kx_pl, kx_cmp, kx_oF, kx_eqN, kx_nil, kx_c1, kx_ft, kx_aI, kx_aL, kx_aR, kx_ln, Nat.reduceAdd, Option.toList, List.cons_append, List.nil_append, cf10_0, cf0_0, cf10_8, cf1_6, cf1_7, cf1_4]
            repeat (simp only [hk64, h64, h65, h70, nI_1, nI_add, ks_eq, ks_ss]; try dsimp only [kx_wp, kx_step, kx_lI, kx_lL, kx_lA, kx_gl, kx_pI, kx_pL, kx_pR, kx_pA, kx_pV, kx_s1, kx_s2, kx_sl, kx_pre, kx_c2, kx_pl, kx_cmp, kx_oF, kx_eqN, kx_nil, kx_c1, kx_ft, kx_aI, kx_aL, kx_aR, kx_ln, Nat.reduceAdd, Option.toList, List.cons_append, List.nil_append, cf10_0, cf0_0, cf10_8, cf1_6, cf1_7, cf1_4])
            repeat' apply And.intro
            all_goals try (first | with_reducible assumption | (with_reducible refine ck_nzI ?_; simp; done) | (with_reducible refine ck_nzL ?_; simp; done) | (with_reducible refine vp_in_nI ?_ ?_ <;> first | omega | decide) | (with_reducible refine Nat.le_of_ble_eq_true ?_; rfl) | omega | exact Or.inl trivial | exact Or.inr trivial | exact Or.inl rfl | exact Or.inr rfl)
            refine hB bX10_foretold_118 _ _ _ _ _ _ _ kX10_foretold_118 ?_
            dsimp only [bX10_foretold_118, kx_wp, kx_step, kx_lI, kx_lL, kx_lA, kx_gl, kx_pI, kx_pL, kx_pR, kx_pA, kx_pV, kx_s1, kx_s2, kx_sl, kx_pre, kx_c2, kx_pl, kx_cmp, kx_oF, kx_eqN, kx_nil, kx_c1, kx_ft, kx_aI, kx_aL, kx_aR, kx_ln, Nat.reduceAdd, Option.toList, List.cons_append, List.nil_append, cf10_0, cf0_0, cf10_8, cf1_6, cf1_7, cf1_4]
            repeat (simp only [hk64, h64, h65, h70, nI_1, nI_add, ks_eq, ks_ss]; try dsimp only [kx_wp, kx_step, kx_lI, kx_lL, kx_lA, kx_gl, kx_pI, kx_pL, kx_pR, kx_pA, kx_pV, kx_s1, kx_s2, kx_sl, kx_pre, kx_c2, kx_pl, kx_cmp, kx_oF, kx_eqN, kx_nil, kx_c1, kx_ft, kx_aI, kx_aL, kx_aR, kx_ln, Nat.reduceAdd, Option.toList, List.cons_append, List.nil_append, cf10_0, cf0_0, cf10_8, cf1_6, cf1_7, cf1_4])
            repeat' apply And.intro
            all_goals try (first | with_reducible assumption | (with_reducible refine ck_nzI ?_; simp; done) | (with_reducible refine ck_nzL ?_; simp; done) | (with_reducible refine vp_in_nI ?_ ?_ <;> first | omega | decide) | (with_reducible refine Nat.le_of_ble_eq_true ?_; rfl) | omega | exact Or.inl trivial | exact Or.inr trivial | exact Or.inl rfl | exact Or.inr rfl)
            have hih := fun a => ih (n + 1) S2 C2 d2 a (by omega) hF2 h942
            rw [h52, show mi + (n + 1) = mi + n + 1 from rfl] at hih
            first | (rw [hle zc110] at hih; exact hih _) | (rw [hgt zc110] at hih; exact hih _)
  refine hB bX10_foretold_0 _ _ _ _ _ _ _ kX10_foretold_0 ?_
  dsimp only [bX10_foretold_0, kx_wp, kx_step, kx_lI, kx_lL, kx_lA, kx_gl, kx_pI, kx_pL, kx_pR, kx_pA, kx_pV, kx_s1, kx_s2, kx_sl, kx_pre, kx_c2, kx_pl, kx_cmp, kx_oF, kx_eqN, kx_nil, kx_c1, kx_ft, kx_aI, kx_aL, kx_aR, kx_ln, Nat.reduceAdd, Option.toList, List.cons_append, List.nil_append, cf10_0, cf0_0, cf10_8, cf1_6, cf1_7, cf1_4]
  repeat (simp only [hk64, h64, h65, h70, nI_1, nI_add, ks_eq, ks_ss]; try dsimp only [kx_wp, kx_step, kx_lI, kx_lL, kx_lA, kx_gl, kx_pI, kx_pL, kx_pR, kx_pA, kx_pV, kx_s1, kx_s2, kx_sl, kx_pre, kx_c2, kx_pl, kx_cmp, kx_oF, kx_eqN, kx_nil, kx_c1, kx_ft, kx_aI, kx_aL, kx_aR, kx_ln, Nat.reduceAdd, Option.toList, List.cons_append, List.nil_append, cf10_0, cf0_0, cf10_8, cf1_6, cf1_7, cf1_4])
  repeat' apply And.intro
  all_goals try (first | with_reducible assumption | (with_reducible refine ck_nzI ?_; simp; done) | (with_reducible refine ck_nzL ?_; simp; done) | (with_reducible refine vp_in_nI ?_ ?_ <;> first | omega | decide) | (with_reducible refine Nat.le_of_ble_eq_true ?_; rfl) | omega | exact Or.inl trivial | exact Or.inr trivial | exact Or.inl rfl | exact Or.inr rfl)
  refine hC.1 138 _ _ _ _ _ _ _ 10 _ _ _ _ _ _ _ _ _ _ _ _ lX10_138 (ct_X10_theClock l G h64 h69 hK7 hcl hc) ⟨by decide, rfl⟩ (h64) rfl rfl (Nat.le_of_ble_eq_true rfl) (by first | decide | omega) (by decide) (by omega) (by omega) dX10_foretold_2 ?_
  refine hB bX10_foretold_5 _ _ _ _ _ _ _ kX10_foretold_5 ?_
  dsimp only [bX10_foretold_5, kx_wp, kx_step, kx_lI, kx_lL, kx_lA, kx_gl, kx_pI, kx_pL, kx_pR, kx_pA, kx_pV, kx_s1, kx_s2, kx_sl, kx_pre, kx_c2, kx_pl, kx_cmp, kx_oF, kx_eqN, kx_nil, kx_c1, kx_ft, kx_aI, kx_aL, kx_aR, kx_ln, Nat.reduceAdd, Option.toList, List.cons_append, List.nil_append, cf10_0, cf0_0, cf10_8, cf1_6, cf1_7, cf1_4]
  repeat (simp only [hk64, h64, h65, h70, nI_1, nI_add, ks_eq, ks_ss]; try dsimp only [kx_wp, kx_step, kx_lI, kx_lL, kx_lA, kx_gl, kx_pI, kx_pL, kx_pR, kx_pA, kx_pV, kx_s1, kx_s2, kx_sl, kx_pre, kx_c2, kx_pl, kx_cmp, kx_oF, kx_eqN, kx_nil, kx_c1, kx_ft, kx_aI, kx_aL, kx_aR, kx_ln, Nat.reduceAdd, Option.toList, List.cons_append, List.nil_append, cf10_0, cf0_0, cf10_8, cf1_6, cf1_7, cf1_4])
  repeat' apply And.intro
  all_goals try (first | with_reducible assumption | (with_reducible refine ck_nzI ?_; simp; done) | (with_reducible refine ck_nzL ?_; simp; done) | (with_reducible refine vp_in_nI ?_ ?_ <;> first | omega | decide) | (with_reducible refine Nat.le_of_ble_eq_true ?_; rfl) | omega | exact Or.inl trivial | exact Or.inr trivial | exact Or.inl rfl | exact Or.inr rfl)
  · intro zc9
    first | exact absurd rfl zc9 | exact absurd zc9 (by decide) | exact absurd (by decide) zc9 | (exfalso; first | exact absurd ((nI_ltI (a := k) (b := 1) (by omega) (by omega)).mp zc9) (by omega) | exact absurd ((nI_ltI (a := 3000) (b := k) (by omega) (by omega)).mp zc16) (by omega) | exact absurd zc20 (by decide) | exact absurd zc26 (by decide) | exact absurd ((nI_leI (a := mi + k) (b := mi + n) (by omega) (by omega)).mp zc81) (by omega) | exact absurd ((nI_leI (a := mi + k) (b := mi + n) (by omega) (by omega)).mpr (by omega)) zc81 | exact absurd ((nI_leI (a := mi + n) (b := mi + n) (by omega) (by omega)).mpr (by omega)) zc81) | (exfalso; simp_all; done)
  · intro zc9
    with_reducible first | have ze9 := Int32.not_lt.mp zc9 | have ze9 := zc9
    refine hB bX10_foretold_12 _ _ _ _ _ _ _ kX10_foretold_12 ?_
    dsimp only [bX10_foretold_12, kx_wp, kx_step, kx_lI, kx_lL, kx_lA, kx_gl, kx_pI, kx_pL, kx_pR, kx_pA, kx_pV, kx_s1, kx_s2, kx_sl, kx_pre, kx_c2, kx_pl, kx_cmp, kx_oF, kx_eqN, kx_nil, kx_c1, kx_ft, kx_aI, kx_aL, kx_aR, kx_ln, Nat.reduceAdd, Option.toList, List.cons_append, List.nil_append, cf10_0, cf0_0, cf10_8, cf1_6, cf1_7, cf1_4]
    repeat (simp only [hk64, h64, h65, h70, nI_1, nI_add, ks_eq, ks_ss]; try dsimp only [kx_wp, kx_step, kx_lI, kx_lL, kx_lA, kx_gl, kx_pI, kx_pL, kx_pR, kx_pA, kx_pV, kx_s1, kx_s2, kx_sl, kx_pre, kx_c2, kx_pl, kx_cmp, kx_oF, kx_eqN, kx_nil, kx_c1, kx_ft, kx_aI, kx_aL, kx_aR, kx_ln, Nat.reduceAdd, Option.toList, List.cons_append, List.nil_append, cf10_0, cf0_0, cf10_8, cf1_6, cf1_7, cf1_4])
    repeat' apply And.intro
    all_goals try (first | with_reducible assumption | (with_reducible refine ck_nzI ?_; simp; done) | (with_reducible refine ck_nzL ?_; simp; done) | (with_reducible refine vp_in_nI ?_ ?_ <;> first | omega | decide) | (with_reducible refine Nat.le_of_ble_eq_true ?_; rfl) | omega | exact Or.inl trivial | exact Or.inr trivial | exact Or.inl rfl | exact Or.inr rfl)
    · intro zc16
      first | exact absurd rfl zc16 | exact absurd zc16 (by decide) | exact absurd (by decide) zc16 | (exfalso; first | exact absurd ((nI_ltI (a := k) (b := 1) (by omega) (by omega)).mp zc9) (by omega) | exact absurd ((nI_ltI (a := 3000) (b := k) (by omega) (by omega)).mp zc16) (by omega) | exact absurd zc20 (by decide) | exact absurd zc26 (by decide) | exact absurd ((nI_leI (a := mi + k) (b := mi + n) (by omega) (by omega)).mp zc81) (by omega) | exact absurd ((nI_leI (a := mi + k) (b := mi + n) (by omega) (by omega)).mpr (by omega)) zc81 | exact absurd ((nI_leI (a := mi + n) (b := mi + n) (by omega) (by omega)).mpr (by omega)) zc81) | (exfalso; simp_all; done)
    · intro zc16
      with_reducible first | have ze16 := Int32.not_lt.mp zc16 | have ze16 := zc16
      refine hB bX10_foretold_19 _ _ _ _ _ _ _ kX10_foretold_19 ?_
      dsimp only [bX10_foretold_19, kx_wp, kx_step, kx_lI, kx_lL, kx_lA, kx_gl, kx_pI, kx_pL, kx_pR, kx_pA, kx_pV, kx_s1, kx_s2, kx_sl, kx_pre, kx_c2, kx_pl, kx_cmp, kx_oF, kx_eqN, kx_nil, kx_c1, kx_ft, kx_aI, kx_aL, kx_aR, kx_ln, Nat.reduceAdd, Option.toList, List.cons_append, List.nil_append, cf10_0, cf0_0, cf10_8, cf1_6, cf1_7, cf1_4]
      repeat (simp only [hk64, h64, h65, h70, nI_1, nI_add, ks_eq, ks_ss]; try dsimp only [kx_wp, kx_step, kx_lI, kx_lL, kx_lA, kx_gl, kx_pI, kx_pL, kx_pR, kx_pA, kx_pV, kx_s1, kx_s2, kx_sl, kx_pre, kx_c2, kx_pl, kx_cmp, kx_oF, kx_eqN, kx_nil, kx_c1, kx_ft, kx_aI, kx_aL, kx_aR, kx_ln, Nat.reduceAdd, Option.toList, List.cons_append, List.nil_append, cf10_0, cf0_0, cf10_8, cf1_6, cf1_7, cf1_4])
      repeat' apply And.intro
      all_goals try (first | with_reducible assumption | (with_reducible refine ck_nzI ?_; simp; done) | (with_reducible refine ck_nzL ?_; simp; done) | (with_reducible refine vp_in_nI ?_ ?_ <;> first | omega | decide) | (with_reducible refine Nat.le_of_ble_eq_true ?_; rfl) | omega | exact Or.inl trivial | exact Or.inr trivial | exact Or.inl rfl | exact Or.inr rfl)
      · intro zc20
        first | exact absurd rfl zc20 | exact absurd zc20 (by decide) | exact absurd (by decide) zc20 | (exfalso; first | exact absurd ((nI_ltI (a := k) (b := 1) (by omega) (by omega)).mp zc9) (by omega) | exact absurd ((nI_ltI (a := 3000) (b := k) (by omega) (by omega)).mp zc16) (by omega) | exact absurd zc20 (by decide) | exact absurd zc26 (by decide) | exact absurd ((nI_leI (a := mi + k) (b := mi + n) (by omega) (by omega)).mp zc81) (by omega) | exact absurd ((nI_leI (a := mi + k) (b := mi + n) (by omega) (by omega)).mpr (by omega)) zc81 | exact absurd ((nI_leI (a := mi + n) (b := mi + n) (by omega) (by omega)).mpr (by omega)) zc81) | (exfalso; simp_all; done)
      · intro zc20
        with_reducible first | have ze20 := Int32.not_lt.mp zc20 | have ze20 := zc20
        refine hB bX10_foretold_23 _ _ _ _ _ _ _ kX10_foretold_23 ?_
        dsimp only [bX10_foretold_23, kx_wp, kx_step, kx_lI, kx_lL, kx_lA, kx_gl, kx_pI, kx_pL, kx_pR, kx_pA, kx_pV, kx_s1, kx_s2, kx_sl, kx_pre, kx_c2, kx_pl, kx_cmp, kx_oF, kx_eqN, kx_nil, kx_c1, kx_ft, kx_aI, kx_aL, kx_aR, kx_ln, Nat.reduceAdd, Option.toList, List.cons_append, List.nil_append, cf10_0, cf0_0, cf10_8, cf1_6, cf1_7, cf1_4]
        repeat (simp only [hk64, h64, h65, h70, nI_1, nI_add, ks_eq, ks_ss]; try dsimp only [kx_wp, kx_step, kx_lI, kx_lL, kx_lA, kx_gl, kx_pI, kx_pL, kx_pR, kx_pA, kx_pV, kx_s1, kx_s2, kx_sl, kx_pre, kx_c2, kx_pl, kx_cmp, kx_oF, kx_eqN, kx_nil, kx_c1, kx_ft, kx_aI, kx_aL, kx_aR, kx_ln, Nat.reduceAdd, Option.toList, List.cons_append, List.nil_append, cf10_0, cf0_0, cf10_8, cf1_6, cf1_7, cf1_4])
        repeat' apply And.intro
        all_goals try (first | with_reducible assumption | (with_reducible refine ck_nzI ?_; simp; done) | (with_reducible refine ck_nzL ?_; simp; done) | (with_reducible refine vp_in_nI ?_ ?_ <;> first | omega | decide) | (with_reducible refine Nat.le_of_ble_eq_true ?_; rfl) | omega | exact Or.inl trivial | exact Or.inr trivial | exact Or.inl rfl | exact Or.inr rfl)
        · intro zc26
          first | exact absurd rfl zc26 | exact absurd zc26 (by decide) | exact absurd (by decide) zc26 | (exfalso; first | exact absurd ((nI_ltI (a := k) (b := 1) (by omega) (by omega)).mp zc9) (by omega) | exact absurd ((nI_ltI (a := 3000) (b := k) (by omega) (by omega)).mp zc16) (by omega) | exact absurd zc20 (by decide) | exact absurd zc26 (by decide) | exact absurd ((nI_leI (a := mi + k) (b := mi + n) (by omega) (by omega)).mp zc81) (by omega) | exact absurd ((nI_leI (a := mi + k) (b := mi + n) (by omega) (by omega)).mpr (by omega)) zc81 | exact absurd ((nI_leI (a := mi + n) (b := mi + n) (by omega) (by omega)).mpr (by omega)) zc81) | (exfalso; simp_all; done)
        · intro zc26
          with_reducible first | have ze26 := Int32.not_lt.mp zc26 | have ze26 := zc26
          refine hB bX10_foretold_29 _ _ _ _ _ _ _ kX10_foretold_29 ?_
          dsimp only [bX10_foretold_29, kx_wp, kx_step, kx_lI, kx_lL, kx_lA, kx_gl, kx_pI, kx_pL, kx_pR, kx_pA, kx_pV, kx_s1, kx_s2, kx_sl, kx_pre, kx_c2, kx_pl, kx_cmp, kx_oF, kx_eqN, kx_nil, kx_c1, kx_ft, kx_aI, kx_aL, kx_aR, kx_ln, Nat.reduceAdd, Option.toList, List.cons_append, List.nil_append, cf10_0, cf0_0, cf10_8, cf1_6, cf1_7, cf1_4]
          repeat (simp only [hk64, h64, h65, h70, nI_1, nI_add, ks_eq, ks_ss]; try dsimp only [kx_wp, kx_step, kx_lI, kx_lL, kx_lA, kx_gl, kx_pI, kx_pL, kx_pR, kx_pA, kx_pV, kx_s1, kx_s2, kx_sl, kx_pre, kx_c2, kx_pl, kx_cmp, kx_oF, kx_eqN, kx_nil, kx_c1, kx_ft, kx_aI, kx_aL, kx_aR, kx_ln, Nat.reduceAdd, Option.toList, List.cons_append, List.nil_append, cf10_0, cf0_0, cf10_8, cf1_6, cf1_7, cf1_4])
          repeat' apply And.intro
          all_goals try (first | with_reducible assumption | (with_reducible refine ck_nzI ?_; simp; done) | (with_reducible refine ck_nzL ?_; simp; done) | (with_reducible refine vp_in_nI ?_ ?_ <;> first | omega | decide) | (with_reducible refine Nat.le_of_ble_eq_true ?_; rfl) | omega | exact Or.inl trivial | exact Or.inr trivial | exact Or.inl rfl | exact Or.inr rfl)
          refine hC.2.1 95 _ _ _ _ _ _ _ _ _ _ _ _ _ _ _ _ _ lX10_95 (ct_X10_need l G (b := 1) (by decide)) rfl rfl (Nat.le_of_ble_eq_true rfl) (by first | decide | omega) (by decide) (by omega) (by omega) dX10_foretold_34 ?_
          refine hB bX10_foretold_37 _ _ _ _ _ _ _ kX10_foretold_37 ?_
          dsimp only [bX10_foretold_37, kx_wp, kx_step, kx_lI, kx_lL, kx_lA, kx_gl, kx_pI, kx_pL, kx_pR, kx_pA, kx_pV, kx_s1, kx_s2, kx_sl, kx_pre, kx_c2, kx_pl, kx_cmp, kx_oF, kx_eqN, kx_nil, kx_c1, kx_ft, kx_aI, kx_aL, kx_aR, kx_ln, Nat.reduceAdd, Option.toList, List.cons_append, List.nil_append, cf10_0, cf0_0, cf10_8, cf1_6, cf1_7, cf1_4]
          repeat (simp only [hk64, h64, h65, h70, nI_1, nI_add, ks_eq, ks_ss, al0]; try dsimp only [kx_wp, kx_step, kx_lI, kx_lL, kx_lA, kx_gl, kx_pI, kx_pL, kx_pR, kx_pA, kx_pV, kx_s1, kx_s2, kx_sl, kx_pre, kx_c2, kx_pl, kx_cmp, kx_oF, kx_eqN, kx_nil, kx_c1, kx_ft, kx_aI, kx_aL, kx_aR, kx_ln, Nat.reduceAdd, Option.toList, List.cons_append, List.nil_append, cf10_0, cf0_0, cf10_8, cf1_6, cf1_7, cf1_4])
          repeat' apply And.intro
          all_goals try (first | with_reducible assumption | (with_reducible refine ck_nzI ?_; simp; done) | (with_reducible refine ck_nzL ?_; simp; done) | (with_reducible refine vp_in_nI ?_ ?_ <;> first | omega | decide) | (with_reducible refine Nat.le_of_ble_eq_true ?_; rfl) | omega | exact Or.inl trivial | exact Or.inr trivial | exact Or.inl rfl | exact Or.inr rfl)
          refine hC.2.1 132 _ _ _ _ _ _ _ _ _ _ _ _ _ _ _ _ _ lX10_132 (ct_X10_needMinute l G (m := nI (mi + k)) ((nI_leI (a := mi + k) (b := 100000) (by omega) (by omega)).mpr hmk)) rfl rfl (Nat.le_of_ble_eq_true rfl) (by first | decide | omega) (by decide) (by omega) (by omega) dX10_foretold_50 ?_
          refine hB bX10_foretold_53 _ _ _ _ _ _ _ kX10_foretold_53 ?_
          dsimp only [bX10_foretold_53, kx_wp, kx_step, kx_lI, kx_lL, kx_lA, kx_gl, kx_pI, kx_pL, kx_pR, kx_pA, kx_pV, kx_s1, kx_s2, kx_sl, kx_pre, kx_c2, kx_pl, kx_cmp, kx_oF, kx_eqN, kx_nil, kx_c1, kx_ft, kx_aI, kx_aL, kx_aR, kx_ln, Nat.reduceAdd, Option.toList, List.cons_append, List.nil_append, cf10_0, cf0_0, cf10_8, cf1_6, cf1_7, cf1_4]
          repeat (simp only [hk64, h64, h65, h70, nI_1, nI_add, ks_eq, ks_ss]; try dsimp only [kx_wp, kx_step, kx_lI, kx_lL, kx_lA, kx_gl, kx_pI, kx_pL, kx_pR, kx_pA, kx_pV, kx_s1, kx_s2, kx_sl, kx_pre, kx_c2, kx_pl, kx_cmp, kx_oF, kx_eqN, kx_nil, kx_c1, kx_ft, kx_aI, kx_aL, kx_aR, kx_ln, Nat.reduceAdd, Option.toList, List.cons_append, List.nil_append, cf10_0, cf0_0, cf10_8, cf1_6, cf1_7, cf1_4])
          repeat' apply And.intro
          all_goals try (first | with_reducible assumption | (with_reducible refine ck_nzI ?_; simp; done) | (with_reducible refine ck_nzL ?_; simp; done) | (with_reducible refine vp_in_nI ?_ ?_ <;> first | omega | decide) | (with_reducible refine Nat.le_of_ble_eq_true ?_; rfl) | omega | exact Or.inl trivial | exact Or.inr trivial | exact Or.inl rfl | exact Or.inr rfl)
          refine hC.1 326 _ _ _ _ _ _ _ 1 _ _ _ _ _ _ _ _ _ _ _ _ lX10_326 (hb9) ⟨by decide, rfl⟩ (h70) rfl rfl (Nat.le_of_ble_eq_true rfl) (by first | decide | omega) (by decide) (by omega) (by omega) dX10_foretold_59 ?_
          refine hB bX10_foretold_62 _ _ _ _ _ _ _ kX10_foretold_62 ?_
          dsimp only [bX10_foretold_62, kx_wp, kx_step, kx_lI, kx_lL, kx_lA, kx_gl, kx_pI, kx_pL, kx_pR, kx_pA, kx_pV, kx_s1, kx_s2, kx_sl, kx_pre, kx_c2, kx_pl, kx_cmp, kx_oF, kx_eqN, kx_nil, kx_c1, kx_ft, kx_aI, kx_aL, kx_aR, kx_ln, Nat.reduceAdd, Option.toList, List.cons_append, List.nil_append, cf10_0, cf0_0, cf10_8, cf1_6, cf1_7, cf1_4]
          repeat (simp only [hk64, h64, h65, h70, nI_1, nI_add, ks_eq, ks_ss, h64', h65', al0]; try dsimp only [kx_wp, kx_step, kx_lI, kx_lL, kx_lA, kx_gl, kx_pI, kx_pL, kx_pR, kx_pA, kx_pV, kx_s1, kx_s2, kx_sl, kx_pre, kx_c2, kx_pl, kx_cmp, kx_oF, kx_eqN, kx_nil, kx_c1, kx_ft, kx_aI, kx_aL, kx_aR, kx_ln, Nat.reduceAdd, Option.toList, List.cons_append, List.nil_append, cf10_0, cf0_0, cf10_8, cf1_6, cf1_7, cf1_4])
          repeat' apply And.intro
          all_goals try (first | with_reducible assumption | (with_reducible refine ck_nzI ?_; simp; done) | (with_reducible refine ck_nzL ?_; simp; done) | (with_reducible refine vp_in_nI ?_ ?_ <;> first | omega | decide) | (with_reducible refine Nat.le_of_ble_eq_true ?_; rfl) | omega | exact Or.inl trivial | exact Or.inr trivial | exact Or.inl rfl | exact Or.inr rfl)
          have h0 := fun a => loop77 k 0 S0 _ _ a (by omega) (show cF (ck_mns FF cl 0) V T Q Fo St Al _ (L 116 c) c (mi + 0) by rw [hm0]; exact hF0) (by rw [hm0]; exact h94)
          rw [hm0, e51, e52, Nat.add_zero] at h0
          rw [← hP5] at h0
          exact h0 _

set_option maxRecDepth 100000 in
set_option maxHeartbeats 4000000 in
theorem ct_X10_foretold_5 (l : Launch) (G : kx_G) {P : kx_P} {sz : Nat} {M : Nat → Int32} {A : Nat → Nat → Int32} {L : Nat → Nat → Int64} {cl mi sd se : Nat} {bl : Nat → Nat} (hst : cR_st P M A cl se bl) (hdy : cR_dy P A L cl se sz bl (fun _ => mi)) (hm : cR_m M A L cl mi sd) {c k : Nat} (hc : c < cl) (hk1 : 1 ≤ k) (hk2 : k ≤ 3000) (hmk : mi + k ≤ 100000)  : kx_Mn l G sX10_foretold 9 0 0 [.ref 64, .int (nI c), .int (nI k), .int (5)] P sz (fun r P2 s2 => r = some (.int (ck_seenV (ck_mns (ck_fS M A L cl c) cl k) c 5)) ∧ s2 = sz ∧ cR_af P P2 (M, A, L) cl mi se sz bl) := by
  have hcl : cl ≤ 8 := hm.2.2.1
  have haf := fun S1 C1 d gh => cR_af_g hst hdy hm hc S1 C1 d gh
  obtain ⟨⟨K, h64, -, -, hK7, -, -⟩, ⟨Al, h65, al0, al1, al3⟩, p66, -, -, h69, ⟨gv, gd, gh, Cg, h70⟩, -, -, -, -, -, -, -, -, -, -, -, -, -, -, p1, -⟩ := id hst
  rw [hm.2.1] at hK7
  rw [hm.2.2.2.1] at al0
  obtain ⟨V, T, Q, Fo, St, S0, C, Kp, c1, c2, c3, c4, c5, c6⟩ := hdy.2.1 c hc
  have b1 := hdy.1.w hcl hc
  have b2 := hdy.1.c hcl hc
  have b3 := hdy.1.wc hcl hc hc
  have H : cx_R P 70 (bl c) V T Q Fo St Al (A 94) := ⟨b1.2.1, by decide, by omega, by decide, by decide, c1.1, c1.2.1, c1.2.2.1, c1.2.2.2.1, c1.2.2.2.2.1, h65, p66, p1⟩
  obtain ⟨hF0, h94⟩ := cF_0 (P := P) (C1 := upd (upd (upd (upd (upd (upd (upd Cg 4 (C 4)) 5 (C 5)) 6 (C 6)) 7 (C 7)) 8 (C 8)) 9 (C 9)) 10 (C 10)) hm hc c4 c5 al1 al3 (Or.inr ⟨Cg, rfl⟩)
  have hms : ∀ n, ck_mns (ck_fS M A L cl c) cl (n + 1) = ck_mn (ck_mns (ck_fS M A L cl c) cl n) cl := fun _ => rfl
  have hm0 : ck_mns (ck_fS M A L cl c) cl 0 = ck_fS M A L cl c := rfl
  have e51 : (ck_fS M A L cl c).1 51 = 0 := rfl
  have e52 : (ck_fS M A L cl c).1 52 = 0 := rfl
  have hk64 : ∀ S d C, cW P 70 (bl c) S d gh C 64 = kO 10 (kf (cr10 (cR_sv (bl 16))) K) := fun S d C => (cW_o (by decide) (by omega)).trans h64
  have hb9 := ct_X1_become l G (sz := sz) (b := 70) (c := bl (8 + c)) h70 c2 (by omega) (by decide)
  obtain ⟨P5, hP5⟩ : ∃ P5, P5 = cW P 70 (bl c) S0 (L 116 c) gh (upd (upd (upd (upd (upd (upd (upd Cg 4 (C 4)) 5 (C 5)) 6 (C 6)) 7 (C 7)) 8 (C 8)) 9 (C 9)) 10 (C 10)) := ⟨_, rfl⟩
  have hw5 : kx_set P 70 (kO 1 (kf (cr1 (.ref (bl c)) (L 116 c) gh) (upd (upd (upd (upd (upd (upd (upd Cg 4 (C 4)) 5 (C 5)) 6 (C 6)) 7 (C 7)) 8 (C 8)) 9 (C 9)) 10 (C 10)))) = P5 := by
    rw [hP5]; unfold cW; rw [ks_id (P := P) c1.2.2.2.2.2]
  rw [hw5] at hb9
  have h65' : P5 65 = kO 0 (kf cr0 Al) := by rw [hP5, cW_o (by decide) (by omega)]; exact h65
  have h64' : P5 64 = kO 10 (kf (cr10 (cR_sv (bl 16))) K) := by rw [hP5]; exact hk64 _ _ _
  generalize ck_fS M A L cl c = FF at hF0 h94 hms hm0 e51 e52
  refine kx_mkn kx_tab kxLok_X10 (ini := false) [some (.ref 64), some (.int (nI c)), some (.int (nI k)), some (.int (5)), none, none, none, none, none, none] ⟨by decide, rfl, by decide, by decide⟩ (fun _ _ _ h => ⟨_, h.1⟩) rfl rfl (fun g hB hC hN => ?_)
  have loop77 : ∀ (n9 : Nat) (n : Nat) (S1 C1 : Nat → Int32) (d : Int64) (a : Option Value), n + n9 = k → cF (ck_mns FF cl n) V T Q Fo St Al C1 d c (mi + n) → (ck_mns FF cl n).2.1 94 = A 94 → g 77 [some (.ref 64), some (.int (nI c)), some (.int (nI k)), some (.int 5), some (.ref (bl (8 + c))), some (.int (nI (mi + k))), some (.int ((ck_mns FF cl n).1 51)), some (.int ((ck_mns FF cl n).1 52)), some (.int (nI (mi + n))), a] [] (cW P 70 (bl c) S1 d gh C1) sz 0 0 := by
    intro n9
    induction n9 with
    | zero =>
      intro n S1 C1 d a hnk hF h94n
      · obtain rfl : n = k := by omega
        have hres : ck_seenV (ck_mns FF cl n) c 5 = (ck_mns FF cl n).1 51 := rfl
        refine hB bX10_foretold_77 _ _ _ _ _ _ _ kX10_foretold_77 ?_
        dsimp only [bX10_foretold_77, kx_wp, kx_step, kx_lI, kx_lL, kx_lA, kx_gl, kx_pI, kx_pL, kx_pR, kx_pA, kx_pV, kx_s1, kx_s2, kx_sl, kx_pre, kx_c2, kx_pl, kx_cmp, kx_oF, kx_eqN, kx_nil, kx_c1, kx_ft, kx_aI, kx_aL, kx_aR, kx_ln, Nat.reduceAdd, Option.toList, List.cons_append, List.nil_append, cf10_0, cf0_0, cf10_8, cf1_6, cf1_7, cf1_4]
        repeat (simp only [hk64, h64, h65, h70, nI_1, nI_add, ks_eq, ks_ss]; try dsimp only [kx_wp, kx_step, kx_lI, kx_lL, kx_lA, kx_gl, kx_pI, kx_pL, kx_pR, kx_pA, kx_pV, kx_s1, kx_s2, kx_sl, kx_pre, kx_c2, kx_pl, kx_cmp, kx_oF, kx_eqN, kx_nil, kx_c1, kx_ft, kx_aI, kx_aL, kx_aR, kx_ln, Nat.reduceAdd, Option.toList, List.cons_append, List.nil_append, cf10_0, cf0_0, cf10_8, cf1_6, cf1_7, cf1_4])
        repeat' apply And.intro
        all_goals try (first | with_reducible assumption | (with_reducible refine ck_nzI ?_; simp; done) | (with_reducible refine ck_nzL ?_; simp; done) | (with_reducible refine vp_in_nI ?_ ?_ <;> first | omega | decide) | (with_reducible refine Nat.le_of_ble_eq_true ?_; rfl) | omega | exact Or.inl trivial | exact Or.inr trivial | exact Or.inl rfl | exact Or.inr rfl)
        · intro zc81
          with_reducible first | have ze81 := Int32.not_lt.mpr zc81 | have ze81 := zc81
          refine hB bX10_foretold_134 _ _ _ _ _ _ _ kX10_foretold_134 ?_
          dsimp only [bX10_foretold_134, kx_wp, kx_step, kx_lI, kx_lL, kx_lA, kx_gl, kx_pI, kx_pL, kx_pR, kx_pA, kx_pV, kx_s1, kx_s2, kx_sl, kx_pre, kx_c2, kx_pl, kx_cmp, kx_oF, kx_eqN, kx_nil, kx_c1, kx_ft, kx_aI, kx_aL, kx_aR, kx_ln, Nat.reduceAdd, Option.toList, List.cons_append, List.nil_append, cf10_0, cf0_0, cf10_8, cf1_6, cf1_7, cf1_4]
          repeat (simp only [hk64, h64, h65, h70, nI_1, nI_add, ks_eq, ks_ss]; try dsimp only [kx_wp, kx_step, kx_lI, kx_lL, kx_lA, kx_gl, kx_pI, kx_pL, kx_pR, kx_pA, kx_pV, kx_s1, kx_s2, kx_sl, kx_pre, kx_c2, kx_pl, kx_cmp, kx_oF, kx_eqN, kx_nil, kx_c1, kx_ft, kx_aI, kx_aL, kx_aR, kx_ln, Nat.reduceAdd, Option.toList, List.cons_append, List.nil_append, cf10_0, cf0_0, cf10_8, cf1_6, cf1_7, cf1_4])
          repeat' apply And.intro
          all_goals try (first | with_reducible assumption | (with_reducible refine ck_nzI ?_; simp; done) | (with_reducible refine ck_nzL ?_; simp; done) | (with_reducible refine vp_in_nI ?_ ?_ <;> first | omega | decide) | (with_reducible refine Nat.le_of_ble_eq_true ?_; rfl) | omega | exact Or.inl trivial | exact Or.inr trivial | exact Or.inl rfl | exact Or.inr rfl)
          · exact fun zc135 => absurd zc135 (by decide)
          refine kx_sw (ws := [172, 182, 190, 198, 206, 214]) rfl ?_
          dsimp only [kx_swl]
          refine ⟨fun zc135_0 => absurd zc135_0 (by decide), fun zc135_1 => absurd zc135_1 (by decide), fun zc135_2 => absurd zc135_2 (by decide), fun zc135_3 => absurd zc135_3 (by decide), fun zc135_4 => absurd zc135_4 (by decide), fun zc135_5 => ?_, trivial⟩
          refine hB bX10_foretold_214 _ _ _ _ _ _ _ kX10_foretold_214 ?_
          dsimp only [bX10_foretold_214, kx_wp, kx_step, kx_lI, kx_lL, kx_lA, kx_gl, kx_pI, kx_pL, kx_pR, kx_pA, kx_pV, kx_s1, kx_s2, kx_sl, kx_pre, kx_c2, kx_pl, kx_cmp, kx_oF, kx_eqN, kx_nil, kx_c1, kx_ft, kx_aI, kx_aL, kx_aR, kx_ln, Nat.reduceAdd, Option.toList, List.cons_append, List.nil_append, cf10_0, cf0_0, cf10_8, cf1_6, cf1_7, cf1_4]
          repeat (simp only [hk64, h64, h65, h70, nI_1, nI_add, ks_eq, ks_ss]; try dsimp only [kx_wp, kx_step, kx_lI, kx_lL, kx_lA, kx_gl, kx_pI, kx_pL, kx_pR, kx_pA, kx_pV, kx_s1, kx_s2, kx_sl, kx_pre, kx_c2, kx_pl, kx_cmp, kx_oF, kx_eqN, kx_nil, kx_c1, kx_ft, kx_aI, kx_aL, kx_aR, kx_ln, Nat.reduceAdd, Option.toList, List.cons_append, List.nil_append, cf10_0, cf0_0, cf10_8, cf1_6, cf1_7, cf1_4])
          all_goals (repeat' apply And.intro)
          all_goals ((try clear hB hC hN); first | exact True.intro | rfl | (rw [hres]; done) | exact haf _ _ _ _ | decide)
        · intro zc81
          first | exact absurd rfl zc81 | exact absurd zc81 (by decide) | exact absurd (by decide) zc81 | (exfalso; first | exact absurd ((nI_ltI (a := k) (b := 1) (by omega) (by omega)).mp zc9) (by omega) | exact absurd ((nI_ltI (a := 3000) (b := k) (by omega) (by omega)).mp zc16) (by omega) | exact absurd zc20 (by decide) | exact absurd zc26 (by decide) | exact absurd ((nI_leI (a := mi + k) (b := mi + n) (by omega) (by omega)).mp zc81) (by omega) | exact absurd ((nI_leI (a := mi + k) (b := mi + n) (by omega) (by omega)).mpr (by omega)) zc81 | exact absurd ((nI_leI (a := mi + n) (b := mi + n) (by omega) (by omega)).mpr (by omega)) zc81) | (exfalso; simp_all; done)
    | succ n9 ih =>
      intro n S1 C1 d a hnk hF h94n
      · have hk2 : n < k := by omega
        obtain ⟨lf, a9, mo, hf, hd9, ha9, h6, hlf, hmo, hmo2, hstep⟩ := cF_s hF hc hcl (show mi + n < 100000 by omega)
        obtain ⟨S2, d2, C2, he⟩ : ∃ S2 d2 C2, cx_gm V T Q (fun j => (ck_mns FF cl n).2.1 106 (400 * c + j)) (fun j => (ck_mns FF cl n).2.1 107 (400 * c + j)) S1 C1 ((ck_mns FF cl n).2.1 105 c).toNatClampNeg (Al 1) lf a9 mo = (S2, d2, C2) := ⟨_, _, _, rfl⟩
        obtain ⟨hF2, h942, h52, hle, hgt⟩ := hstep S1 S2 d2 C2 he
        rw [← hms] at hF2 h942 h52 hle hgt
        rw [h94n] at hmo h942
        have hg9 := ct_X1_goMinute l G (sz := sz) H (S := S1) (C := C1) (d := d) (h := gh) hf (mi := mi + n) (by omega) hd9 ha9 h6 hlf hmo hmo2
        rw [he] at hg9
        dsimp only at hg9
        have hr9 := ct_X1_heardStrokes l G (sz := sz) (c := 70) (cW_c (P := P) (w := bl c) (S := S2) (C := C2) (d := d2) (h := gh))
        have hk65 : cW P 70 (bl c) S1 d gh C1 65 = kO 0 (kf cr0 Al) := (cW_o (by decide) (by omega)).trans h65
        refine hB bX10_foretold_77 _ _ _ _ _ _ _ kX10_foretold_77 ?_
        dsimp only [bX10_foretold_77, kx_wp, kx_step, kx_lI, kx_lL, kx_lA, kx_gl, kx_pI, kx_pL, kx_pR, kx_pA, kx_pV, kx_s1, kx_s2, kx_sl, kx_pre, kx_c2, kx_pl, kx_cmp, kx_oF, kx_eqN, kx_nil, kx_c1, kx_ft, kx_aI, kx_aL, kx_aR, kx_ln, Nat.reduceAdd, Option.toList, List.cons_append, List.nil_append, cf10_0, cf0_0, cf10_8, cf1_6, cf1_7, cf1_4]
        repeat (simp only [hk64, h64, h65, h70, nI_1, nI_add, ks_eq, ks_ss]; try dsimp only [kx_wp, kx_step, kx_lI, kx_lL, kx_lA, kx_gl, kx_pI, kx_pL, kx_pR, kx_pA, kx_pV, kx_s1, kx_s2, kx_sl, kx_pre, kx_c2, kx_pl, kx_cmp, kx_oF, kx_eqN, kx_nil, kx_c1, kx_ft, kx_aI, kx_aL, kx_aR, kx_ln, Nat.reduceAdd, Option.toList, List.cons_append, List.nil_append, cf10_0, cf0_0, cf10_8, cf1_6, cf1_7, cf1_4])
        repeat' apply And.intro
        all_goals try (first | with_reducible assumption | (with_reducible refine ck_nzI ?_; simp; done) | (with_reducible refine ck_nzL ?_; simp; done) | (with_reducible refine vp_in_nI ?_ ?_ <;> first | omega | decide) | (with_reducible refine Nat.le_of_ble_eq_true ?_; rfl) | omega | exact Or.inl trivial | exact Or.inr trivial | exact Or.inl rfl | exact Or.inr rfl)
        · intro zc81
          first | exact absurd rfl zc81 | exact absurd zc81 (by decide) | exact absurd (by decide) zc81 | (exfalso; first | exact absurd ((nI_ltI (a := k) (b := 1) (by omega) (by omega)).mp zc9) (by omega) | exact absurd ((nI_ltI (a := 3000) (b := k) (by omega) (by omega)).mp zc16) (by omega) | exact absurd zc20 (by decide) | exact absurd zc26 (by decide) | exact absurd ((nI_leI (a := mi + k) (b := mi + n) (by omega) (by omega)).mp zc81) (by omega) | exact absurd ((nI_leI (a := mi + k) (b := mi + n) (by omega) (by omega)).mpr (by omega)) zc81 | exact absurd ((nI_leI (a := mi + n) (b := mi + n) (by omega) (by omega)).mpr (by omega)) zc81) | (exfalso; simp_all; done)
        · intro zc81
          with_reducible first | have ze81 := Int32.not_le.mp zc81 | have ze81 := zc81
          refine hB bX10_foretold_84 _ _ _ _ _ _ _ kX10_foretold_84 ?_
          dsimp only [bX10_foretold_84, kx_wp, kx_step, kx_lI, kx_lL, kx_lA, kx_gl, kx_pI, kx_pL, kx_pR, kx_pA, kx_pV, kx_s1, kx_s2, kx_sl, kx_pre, kx_c2, kx_pl, kx_cmp, kx_oF, kx_eqN, kx_nil, kx_c1, kx_ft, kx_aI, kx_aL, kx_aR, kx_ln, Nat.reduceAdd, Option.toList, List.cons_append, List.nil_append, cf10_0, cf0_0, cf10_8, cf1_6, cf1_7, cf1_4]
          repeat (simp only [hk64, h64, h65, h70, nI_1, nI_add, ks_eq, ks_ss]; try dsimp only [kx_wp, kx_step, kx_lI, kx_lL, kx_lA, kx_gl, kx_pI, kx_pL, kx_pR, kx_pA, kx_pV, kx_s1, kx_s2, kx_sl, kx_pre, kx_c2, kx_pl, kx_cmp, kx_oF, kx_eqN, kx_nil, kx_c1, kx_ft, kx_aI, kx_aL, kx_aR, kx_ln, Nat.reduceAdd, Option.toList, List.cons_append, List.nil_append, cf10_0, cf0_0, cf10_8, cf1_6, cf1_7, cf1_4])
          repeat' apply And.intro
          all_goals try (first | with_reducible assumption | (with_reducible refine ck_nzI ?_; simp; done) | (with_reducible refine ck_nzL ?_; simp; done) | (with_reducible refine vp_in_nI ?_ ?_ <;> first | omega | decide) | (with_reducible refine Nat.le_of_ble_eq_true ?_; rfl) | omega | exact Or.inl trivial | exact Or.inr trivial | exact Or.inl rfl | exact Or.inr rfl)
          refine hC.1 330 _ _ _ _ _ _ _ 1 _ _ _ _ _ _ _ _ _ _ _ _ lX10_330 (hg9) ⟨by decide, rfl⟩ (cW_c) rfl rfl (Nat.le_of_ble_eq_true rfl) (by first | decide | omega) (by decide) (by omega) (by omega) dX10_foretold_94 ?_
          refine hB bX10_foretold_97 _ _ _ _ _ _ _ kX10_foretold_97 ?_
          dsimp only [bX10_foretold_97, kx_wp, kx_step, kx_lI, kx_lL, kx_lA, kx_gl, kx_pI, kx_pL, kx_pR, kx_pA, kx_pV, kx_s1, kx_s2, kx_sl, kx_pre, kx_c2, kx_pl, kx_cmp, kx_oF, kx_eqN, kx_nil, kx_c1, kx_ft, kx_aI, kx_aL, kx_aR, kx_ln, Nat.reduceAdd, Option.toList, List.cons_append, List.nil_append, cf10_0, cf0_0, cf10_8, cf1_6, cf1_7, cf1_4]
          repeat (simp only [hk64, h64, h65, h70, nI_1, nI_add, ks_eq, ks_ss]; try dsimp only [kx_wp, kx_step, kx_lI, kx_lL, kx_lA, kx_gl, kx_pI, kx_pL, kx_pR, kx_pA, kx_pV, kx_s1, kx_s2, kx_sl, kx_pre, kx_c2, kx_pl, kx_cmp, kx_oF, kx_eqN, kx_nil, kx_c1, kx_ft, kx_aI, kx_aL, kx_aR, kx_ln, Nat.reduceAdd, Option.toList, List.cons_append, List.nil_append, cf10_0, cf0_0, cf10_8, cf1_6, cf1_7, cf1_4])
          repeat' apply And.intro
          all_goals try (first | with_reducible assumption | (with_reducible refine ck_nzI ?_; simp; done) | (with_reducible refine ck_nzL ?_; simp; done) | (with_reducible refine vp_in_nI ?_ ?_ <;> first | omega | decide) | (with_reducible refine Nat.le_of_ble_eq_true ?_; rfl) | omega | exact Or.inl trivial | exact Or.inr trivial | exact Or.inl rfl | exact Or.inr rfl)
          refine hC.1 334 _ _ _ _ _ _ _ 1 _ _ _ _ _ _ _ _ _ _ _ _ lX10_334 (hr9) ⟨by decide, rfl⟩ (cW_c) rfl rfl (Nat.le_of_ble_eq_true rfl) (by first | decide | omega) (by decide) (by omega) (by omega) dX10_foretold_101 ?_
          refine hB bX10_foretold_104 _ _ _ _ _ _ _ kX10_foretold_104 ?_
          dsimp only [bX10_foretold_104, kx_wp, kx_step, kx_lI, kx_lL, kx_lA, kx_gl, kx_pI, kx_pL, kx_pR, kx_pA, kx_pV, kx_s1, kx_s2, kx_sl, kx_pre, kx_c2, kx_pl, kx_cmp, kx_oF, kx_eqN, kx_nil, kx_c1, kx_ft, kx_aI, kx_aL, kx_aR, kx_ln, Nat.reduceAdd, Option.toList, List.cons_append, List.nil_append, cf10_0, cf0_0, cf10_8, cf1_6, cf1_7, cf1_4]
          repeat (simp only [hk64, h64, h65, h70, nI_1, nI_add, ks_eq, ks_ss]; try dsimp only [kx_wp, kx_step, kx_lI, kx_lL, kx_lA, kx_gl, kx_pI, kx_pL, kx_pR, kx_pA, kx_pV, kx_s1, kx_s2, kx_sl, kx_pre, kx_c2, kx_pl, kx_cmp, kx_oF, kx_eqN, kx_nil, kx_c1, kx_ft, kx_aI, kx_aL, kx_aR, kx_ln, Nat.reduceAdd, Option.toList, List.cons_append, List.nil_append, cf10_0, cf0_0, cf10_8, cf1_6, cf1_7, cf1_4])
          repeat' apply And.intro
          all_goals try (first | with_reducible assumption | (with_reducible refine ck_nzI ?_; simp; done) | (with_reducible refine ck_nzL ?_; simp; done) | (with_reducible refine vp_in_nI ?_ ?_ <;> first | omega | decide) | (with_reducible refine Nat.le_of_ble_eq_true ?_; rfl) | omega | exact Or.inl trivial | exact Or.inr trivial | exact Or.inl rfl | exact Or.inr rfl)
          · intro zc110
            with_reducible first | have ze110 := Int32.not_lt.mpr zc110 | have ze110 := zc110
            refine hB bX10_foretold_117 _ _ _ _ _ _ _ kX10_foretold_117 ?_
            dsimp only [bX10_foretold_117, kx_wp, kx_step, kx_lI, kx_lL, kx_lA, kx_gl, kx_pI, kx_pL, kx_pR, kx_pA, kx_pV, kx_s1, kx_s2, kx_sl, kx_pre, kx_c2, kx_pl, kx_cmp, kx_oF, kx_eqN, kx_nil, kx_c1, kx_ft, kx_aI, kx_aL, kx_aR, kx_ln, Nat.reduceAdd, Option.toList, List.cons_append, List.nil_append, cf10_0, cf0_0, cf10_8, cf1_6, cf1_7, cf1_4]
            repeat (simp only [hk64, h64, h65, h70, nI_1, nI_add, ks_eq, ks_ss]; try dsimp only [kx_wp, kx_step, kx_lI, kx_lL, kx_lA, kx_gl, kx_pI, kx_pL, kx_pR, kx_pA, kx_pV, kx_s1, kx_s2, kx_sl, kx_pre, kx_c2, kx_pl, kx_cmp, kx_oF, kx_eqN, kx_nil, kx_c1, kx_ft, kx_aI, kx_aL, kx_aR, kx_ln, Nat.reduceAdd, Option.toList, List.cons_append, List.nil_append, cf10_0, cf0_0, cf10_8, cf1_6, cf1_7, cf1_4])
            repeat' apply And.intro
            all_goals try (first | with_reducible assumption | (with_reducible refine ck_nzI ?_; simp; done) | (with_reducible refine ck_nzL ?_; simp; done) | (with_reducible refine vp_in_nI ?_ ?_ <;> first | omega | decide) | (with_reducible refine Nat.le_of_ble_eq_true ?_; rfl) | omega | exact Or.inl trivial | exact Or.inr trivial | exact Or.inl rfl | exact Or.inr rfl)
            refine hB bX10_foretold_118 _ _ _ _ _ _ _ kX10_foretold_118 ?_
            dsimp only [bX10_foretold_118, kx_wp, kx_step, kx_lI, kx_lL, kx_lA, kx_gl, kx_pI, kx_pL, kx_pR, kx_pA, kx_pV, kx_s1, kx_s2, kx_sl, kx_pre, kx_c2, kx_pl, kx_cmp, kx_oF, kx_eqN, kx_nil, kx_c1, kx_ft, kx_aI, kx_aL, kx_aR, kx_ln, Nat.reduceAdd, Option.toList, List.cons_append, List.nil_append, cf10_0, cf0_0, cf10_8, cf1_6, cf1_7, cf1_4]
            repeat (simp only [hk64, h64, h65, h70, nI_1, nI_add, ks_eq, ks_ss]; try dsimp only [kx_wp, kx_step, kx_lI, kx_lL, kx_lA, kx_gl, kx_pI, kx_pL, kx_pR, kx_pA, kx_pV, kx_s1, kx_s2, kx_sl, kx_pre, kx_c2, kx_pl, kx_cmp, kx_oF, kx_eqN, kx_nil, kx_c1, kx_ft, kx_aI, kx_aL, kx_aR, kx_ln, Nat.reduceAdd, Option.toList, List.cons_append, List.nil_append, cf10_0, cf0_0, cf10_8, cf1_6, cf1_7, cf1_4])
            repeat' apply And.intro
            all_goals try (first | with_reducible assumption | (with_reducible refine ck_nzI ?_; simp; done) | (with_reducible refine ck_nzL ?_; simp; done) | (with_reducible refine vp_in_nI ?_ ?_ <;> first | omega | decide) | (with_reducible refine Nat.le_of_ble_eq_true ?_; rfl) | omega | exact Or.inl trivial | exact Or.inr trivial | exact Or.inl rfl | exact Or.inr rfl)
            have hih := fun a => ih (n + 1) S2 C2 d2 a (by omega) hF2 h942
            rw [h52, show mi + (n + 1) = mi + n + 1 from rfl] at hih
            first | (rw [hle zc110] at hih; exact hih _) | (rw [hgt zc110] at hih; exact hih _)
          · intro zc110
            with_reducible first | have ze110 := Int32.not_le.mp zc110 | have ze110 := zc110
            refine hB bX10_foretold_113 _ _ _ _ _ _ _ kX10_foretold_113 ?_
            dsimp only [bX10_foretold_113, kx_wp, kx_step, kx_lI, kx_lL, kx_lA, kx_gl, kx_pI, kx_pL, kx_pR, kx_pA, kx_pV, kx_s1, kx_s2, kx_sl, kx_pre, kx_c2, kx_pl, kx_cmp, kx_oF, kx_eqN, kx_nil, kx_c1, kx_ft, kx_aI, kx_aL, kx_aR, kx_ln, Nat.reduceAdd, Option.toList, List.cons_append, List.nil_append, cf10_0, cf0_0, cf10_8, cf1_6, cf1_7, cf1_4]
            repeat (simp only [hk64, h64, h65, h70, nI_1, nI_add, ks_eq, ks_ss]; try dsimp only [kx_wp, kx_step, kx_lI, kx_lL, kx_lA, kx_gl, kx_pI, kx_pL, kx_pR, kx_pA, kx_pV, kx_s1, kx_s2, kx_sl, kx_pre, kx_c2, kx_pl, kx_cmp, kx_oF, kx_eqN, kx_nil, kx_c1, kx_ft, kx_aI, kx_aL, kx_aR, kx_ln, Nat.reduceAdd, Option.toList, List.cons_append, List.nil_append, cf10_0, cf0_0, cf10_8, cf1_6, cf1_7, cf1_4])
            repeat' apply And.intro
            all_goals try (first | with_reducible assumption | (with_reducible refine ck_nzI ?_; simp; done) | (with_reducible refine ck_nzL ?_; simp; done) | (with_reducible refine vp_in_nI ?_ ?_ <;> first | omega | decide) | (with_reducible refine Nat.le_of_ble_eq_true ?_; rfl) | omega | exact Or.inl trivial | exact Or.inr trivial | exact Or.inl rfl | exact Or.inr rfl)
            refine hB bX10_foretold_118 _ _ _ _ _ _ _ kX10_foretold_118 ?_
            dsimp only [bX10_foretold_118, kx_wp, kx_step, kx_lI, kx_lL, kx_lA, kx_gl, kx_pI, kx_pL, kx_pR, kx_pA, kx_pV, kx_s1, kx_s2, kx_sl, kx_pre, kx_c2, kx_pl, kx_cmp, kx_oF, kx_eqN, kx_nil, kx_c1, kx_ft, kx_aI, kx_aL, kx_aR, kx_ln, Nat.reduceAdd, Option.toList, List.cons_append, List.nil_append, cf10_0, cf0_0, cf10_8, cf1_6, cf1_7, cf1_4]
            repeat (simp only [hk64, h64, h65, h70, nI_1, nI_add, ks_eq, ks_ss]; try dsimp only [kx_wp, kx_step, kx_lI, kx_lL, kx_lA, kx_gl, kx_pI, kx_pL, kx_pR, kx_pA, kx_pV, kx_s1, kx_s2, kx_sl, kx_pre, kx_c2, kx_pl, kx_cmp, kx_oF, kx_eqN, kx_nil, kx_c1, kx_ft, kx_aI, kx_aL, kx_aR, kx_ln, Nat.reduceAdd, Option.toList, List.cons_append, List.nil_append, cf10_0, cf0_0, cf10_8, cf1_6, cf1_7, cf1_4])
            repeat' apply And.intro
            all_goals try (first | with_reducible assumption | (with_reducible refine ck_nzI ?_; simp; done) | (with_reducible refine ck_nzL ?_; simp; done) | (with_reducible refine vp_in_nI ?_ ?_ <;> first | omega | decide) | (with_reducible refine Nat.le_of_ble_eq_true ?_; rfl) | omega | exact Or.inl trivial | exact Or.inr trivial | exact Or.inl rfl | exact Or.inr rfl)
            have hih := fun a => ih (n + 1) S2 C2 d2 a (by omega) hF2 h942
            rw [h52, show mi + (n + 1) = mi + n + 1 from rfl] at hih
            first | (rw [hle zc110] at hih; exact hih _) | (rw [hgt zc110] at hih; exact hih _)
  refine hB bX10_foretold_0 _ _ _ _ _ _ _ kX10_foretold_0 ?_
  dsimp only [bX10_foretold_0, kx_wp, kx_step, kx_lI, kx_lL, kx_lA, kx_gl, kx_pI, kx_pL, kx_pR, kx_pA, kx_pV, kx_s1, kx_s2, kx_sl, kx_pre, kx_c2, kx_pl, kx_cmp, kx_oF, kx_eqN, kx_nil, kx_c1, kx_ft, kx_aI, kx_aL, kx_aR, kx_ln, Nat.reduceAdd, Option.toList, List.cons_append, List.nil_append, cf10_0, cf0_0, cf10_8, cf1_6, cf1_7, cf1_4]
  repeat (simp only [hk64, h64, h65, h70, nI_1, nI_add, ks_eq, ks_ss]; try dsimp only [kx_wp, kx_step, kx_lI, kx_lL, kx_lA, kx_gl, kx_pI, kx_pL, kx_pR, kx_pA, kx_pV, kx_s1, kx_s2, kx_sl, kx_pre, kx_c2, kx_pl, kx_cmp, kx_oF, kx_eqN, kx_nil, kx_c1, kx_ft, kx_aI, kx_aL, kx_aR, kx_ln, Nat.reduceAdd, Option.toList, List.cons_append, List.nil_append, cf10_0, cf0_0, cf10_8, cf1_6, cf1_7, cf1_4])
  repeat' apply And.intro
  all_goals try (first | with_reducible assumption | (with_reducible refine ck_nzI ?_; simp; done) | (with_reducible refine ck_nzL ?_; simp; done) | (with_reducible refine vp_in_nI ?_ ?_ <;> first | omega | decide) | (with_reducible refine Nat.le_of_ble_eq_true ?_; rfl) | omega | exact Or.inl trivial | exact Or.inr trivial | exact Or.inl rfl | exact Or.inr rfl)
  refine hC.1 138 _ _ _ _ _ _ _ 10 _ _ _ _ _ _ _ _ _ _ _ _ lX10_138 (ct_X10_theClock l G h64 h69 hK7 hcl hc) ⟨by decide, rfl⟩ (h64) rfl rfl (Nat.le_of_ble_eq_true rfl) (by first | decide | omega) (by decide) (by omega) (by omega) dX10_foretold_2 ?_
  refine hB bX10_foretold_5 _ _ _ _ _ _ _ kX10_foretold_5 ?_
  dsimp only [bX10_foretold_5, kx_wp, kx_step, kx_lI, kx_lL, kx_lA, kx_gl, kx_pI, kx_pL, kx_pR, kx_pA, kx_pV, kx_s1, kx_s2, kx_sl, kx_pre, kx_c2, kx_pl, kx_cmp, kx_oF, kx_eqN, kx_nil, kx_c1, kx_ft, kx_aI, kx_aL, kx_aR, kx_ln, Nat.reduceAdd, Option.toList, List.cons_append, List.nil_append, cf10_0, cf0_0, cf10_8, cf1_6, cf1_7, cf1_4]
  repeat (simp only [hk64, h64, h65, h70, nI_1, nI_add, ks_eq, ks_ss]; try dsimp only [kx_wp, kx_step, kx_lI, kx_lL, kx_lA, kx_gl, kx_pI, kx_pL, kx_pR, kx_pA, kx_pV, kx_s1, kx_s2, kx_sl, kx_pre, kx_c2, kx_pl, kx_cmp, kx_oF, kx_eqN, kx_nil, kx_c1, kx_ft, kx_aI, kx_aL, kx_aR, kx_ln, Nat.reduceAdd, Option.toList, List.cons_append, List.nil_append, cf10_0, cf0_0, cf10_8, cf1_6, cf1_7, cf1_4])
  repeat' apply And.intro
  all_goals try (first | with_reducible assumption | (with_reducible refine ck_nzI ?_; simp; done) | (with_reducible refine ck_nzL ?_; simp; done) | (with_reducible refine vp_in_nI ?_ ?_ <;> first | omega | decide) | (with_reducible refine Nat.le_of_ble_eq_true ?_; rfl) | omega | exact Or.inl trivial | exact Or.inr trivial | exact Or.inl rfl | exact Or.inr rfl)
  · intro zc9
    first | exact absurd rfl zc9 | exact absurd zc9 (by decide) | exact absurd (by decide) zc9 | (exfalso; first | exact absurd ((nI_ltI (a := k) (b := 1) (by omega) (by omega)).mp zc9) (by omega) | exact absurd ((nI_ltI (a := 3000) (b := k) (by omega) (by omega)).mp zc16) (by omega) | exact absurd zc20 (by decide) | exact absurd zc26 (by decide) | exact absurd ((nI_leI (a := mi + k) (b := mi + n) (by omega) (by omega)).mp zc81) (by omega) | exact absurd ((nI_leI (a := mi + k) (b := mi + n) (by omega) (by omega)).mpr (by omega)) zc81 | exact absurd ((nI_leI (a := mi + n) (b := mi + n) (by omega) (by omega)).mpr (by omega)) zc81) | (exfalso; simp_all; done)
  · intro zc9
    with_reducible first | have ze9 := Int32.not_lt.mp zc9 | have ze9 := zc9
    refine hB bX10_foretold_12 _ _ _ _ _ _ _ kX10_foretold_12 ?_
    dsimp only [bX10_foretold_12, kx_wp, kx_step, kx_lI, kx_lL, kx_lA, kx_gl, kx_pI, kx_pL, kx_pR, kx_pA, kx_pV, kx_s1, kx_s2, kx_sl, kx_pre, kx_c2, kx_pl, kx_cmp, kx_oF, kx_eqN, kx_nil, kx_c1, kx_ft, kx_aI, kx_aL, kx_aR, kx_ln, Nat.reduceAdd, Option.toList, List.cons_append, List.nil_append, cf10_0, cf0_0, cf10_8, cf1_6, cf1_7, cf1_4]
    repeat (simp only [hk64, h64, h65, h70, nI_1, nI_add, ks_eq, ks_ss]; try dsimp only [kx_wp, kx_step, kx_lI, kx_lL, kx_lA, kx_gl, kx_pI, kx_pL, kx_pR, kx_pA, kx_pV, kx_s1, kx_s2, kx_sl, kx_pre, kx_c2, kx_pl, kx_cmp, kx_oF, kx_eqN, kx_nil, kx_c1, kx_ft, kx_aI, kx_aL, kx_aR, kx_ln, Nat.reduceAdd, Option.toList, List.cons_append, List.nil_append, cf10_0, cf0_0, cf10_8, cf1_6, cf1_7, cf1_4])
    repeat' apply And.intro
    all_goals try (first | with_reducible assumption | (with_reducible refine ck_nzI ?_; simp; done) | (with_reducible refine ck_nzL ?_; simp; done) | (with_reducible refine vp_in_nI ?_ ?_ <;> first | omega | decide) | (with_reducible refine Nat.le_of_ble_eq_true ?_; rfl) | omega | exact Or.inl trivial | exact Or.inr trivial | exact Or.inl rfl | exact Or.inr rfl)
    · intro zc16
      first | exact absurd rfl zc16 | exact absurd zc16 (by decide) | exact absurd (by decide) zc16 | (exfalso; first | exact absurd ((nI_ltI (a := k) (b := 1) (by omega) (by omega)).mp zc9) (by omega) | exact absurd ((nI_ltI (a := 3000) (b := k) (by omega) (by omega)).mp zc16) (by omega) | exact absurd zc20 (by decide) | exact absurd zc26 (by decide) | exact absurd ((nI_leI (a := mi + k) (b := mi + n) (by omega) (by omega)).mp zc81) (by omega) | exact absurd ((nI_leI (a := mi + k) (b := mi + n) (by omega) (by omega)).mpr (by omega)) zc81 | exact absurd ((nI_leI (a := mi + n) (b := mi + n) (by omega) (by omega)).mpr (by omega)) zc81) | (exfalso; simp_all; done)
    · intro zc16
      with_reducible first | have ze16 := Int32.not_lt.mp zc16 | have ze16 := zc16
      refine hB bX10_foretold_19 _ _ _ _ _ _ _ kX10_foretold_19 ?_
      dsimp only [bX10_foretold_19, kx_wp, kx_step, kx_lI, kx_lL, kx_lA, kx_gl, kx_pI, kx_pL, kx_pR, kx_pA, kx_pV, kx_s1, kx_s2, kx_sl, kx_pre, kx_c2, kx_pl, kx_cmp, kx_oF, kx_eqN, kx_nil, kx_c1, kx_ft, kx_aI, kx_aL, kx_aR, kx_ln, Nat.reduceAdd, Option.toList, List.cons_append, List.nil_append, cf10_0, cf0_0, cf10_8, cf1_6, cf1_7, cf1_4]
      repeat (simp only [hk64, h64, h65, h70, nI_1, nI_add, ks_eq, ks_ss]; try dsimp only [kx_wp, kx_step, kx_lI, kx_lL, kx_lA, kx_gl, kx_pI, kx_pL, kx_pR, kx_pA, kx_pV, kx_s1, kx_s2, kx_sl, kx_pre, kx_c2, kx_pl, kx_cmp, kx_oF, kx_eqN, kx_nil, kx_c1, kx_ft, kx_aI, kx_aL, kx_aR, kx_ln, Nat.reduceAdd, Option.toList, List.cons_append, List.nil_append, cf10_0, cf0_0, cf10_8, cf1_6, cf1_7, cf1_4])
      repeat' apply And.intro
      all_goals try (first | with_reducible assumption | (with_reducible refine ck_nzI ?_; simp; done) | (with_reducible refine ck_nzL ?_; simp; done) | (with_reducible refine vp_in_nI ?_ ?_ <;> first | omega | decide) | (with_reducible refine Nat.le_of_ble_eq_true ?_; rfl) | omega | exact Or.inl trivial | exact Or.inr trivial | exact Or.inl rfl | exact Or.inr rfl)
      · intro zc20
        first | exact absurd rfl zc20 | exact absurd zc20 (by decide) | exact absurd (by decide) zc20 | (exfalso; first | exact absurd ((nI_ltI (a := k) (b := 1) (by omega) (by omega)).mp zc9) (by omega) | exact absurd ((nI_ltI (a := 3000) (b := k) (by omega) (by omega)).mp zc16) (by omega) | exact absurd zc20 (by decide) | exact absurd zc26 (by decide) | exact absurd ((nI_leI (a := mi + k) (b := mi + n) (by omega) (by omega)).mp zc81) (by omega) | exact absurd ((nI_leI (a := mi + k) (b := mi + n) (by omega) (by omega)).mpr (by omega)) zc81 | exact absurd ((nI_leI (a := mi + n) (b := mi + n) (by omega) (by omega)).mpr (by omega)) zc81) | (exfalso; simp_all; done)
      · intro zc20
        with_reducible first | have ze20 := Int32.not_lt.mp zc20 | have ze20 := zc20
        refine hB bX10_foretold_23 _ _ _ _ _ _ _ kX10_foretold_23 ?_
        dsimp only [bX10_foretold_23, kx_wp, kx_step, kx_lI, kx_lL, kx_lA, kx_gl, kx_pI, kx_pL, kx_pR, kx_pA, kx_pV, kx_s1, kx_s2, kx_sl, kx_pre, kx_c2, kx_pl, kx_cmp, kx_oF, kx_eqN, kx_nil, kx_c1, kx_ft, kx_aI, kx_aL, kx_aR, kx_ln, Nat.reduceAdd, Option.toList, List.cons_append, List.nil_append, cf10_0, cf0_0, cf10_8, cf1_6, cf1_7, cf1_4]
        repeat (simp only [hk64, h64, h65, h70, nI_1, nI_add, ks_eq, ks_ss]; try dsimp only [kx_wp, kx_step, kx_lI, kx_lL, kx_lA, kx_gl, kx_pI, kx_pL, kx_pR, kx_pA, kx_pV, kx_s1, kx_s2, kx_sl, kx_pre, kx_c2, kx_pl, kx_cmp, kx_oF, kx_eqN, kx_nil, kx_c1, kx_ft, kx_aI, kx_aL, kx_aR, kx_ln, Nat.reduceAdd, Option.toList, List.cons_append, List.nil_append, cf10_0, cf0_0, cf10_8, cf1_6, cf1_7, cf1_4])
        repeat' apply And.intro
        all_goals try (first | with_reducible assumption | (with_reducible refine ck_nzI ?_; simp; done) | (with_reducible refine ck_nzL ?_; simp; done) | (with_reducible refine vp_in_nI ?_ ?_ <;> first | omega | decide) | (with_reducible refine Nat.le_of_ble_eq_true ?_; rfl) | omega | exact Or.inl trivial | exact Or.inr trivial | exact Or.inl rfl | exact Or.inr rfl)
        · intro zc26
          first | exact absurd rfl zc26 | exact absurd zc26 (by decide) | exact absurd (by decide) zc26 | (exfalso; first | exact absurd ((nI_ltI (a := k) (b := 1) (by omega) (by omega)).mp zc9) (by omega) | exact absurd ((nI_ltI (a := 3000) (b := k) (by omega) (by omega)).mp zc16) (by omega) | exact absurd zc20 (by decide) | exact absurd zc26 (by decide) | exact absurd ((nI_leI (a := mi + k) (b := mi + n) (by omega) (by omega)).mp zc81) (by omega) | exact absurd ((nI_leI (a := mi + k) (b := mi + n) (by omega) (by omega)).mpr (by omega)) zc81 | exact absurd ((nI_leI (a := mi + n) (b := mi + n) (by omega) (by omega)).mpr (by omega)) zc81) | (exfalso; simp_all; done)
        · intro zc26
          with_reducible first | have ze26 := Int32.not_lt.mp zc26 | have ze26 := zc26
          refine hB bX10_foretold_29 _ _ _ _ _ _ _ kX10_foretold_29 ?_
          dsimp only [bX10_foretold_29, kx_wp, kx_step, kx_lI, kx_lL, kx_lA, kx_gl, kx_pI, kx_pL, kx_pR, kx_pA, kx_pV, kx_s1, kx_s2, kx_sl, kx_pre, kx_c2, kx_pl, kx_cmp, kx_oF, kx_eqN, kx_nil, kx_c1, kx_ft, kx_aI, kx_aL, kx_aR, kx_ln, Nat.reduceAdd, Option.toList, List.cons_append, List.nil_append, cf10_0, cf0_0, cf10_8, cf1_6, cf1_7, cf1_4]
          repeat (simp only [hk64, h64, h65, h70, nI_1, nI_add, ks_eq, ks_ss]; try dsimp only [kx_wp, kx_step, kx_lI, kx_lL, kx_lA, kx_gl, kx_pI, kx_pL, kx_pR, kx_pA, kx_pV, kx_s1, kx_s2, kx_sl, kx_pre, kx_c2, kx_pl, kx_cmp, kx_oF, kx_eqN, kx_nil, kx_c1, kx_ft, kx_aI, kx_aL, kx_aR, kx_ln, Nat.reduceAdd, Option.toList, List.cons_append, List.nil_append, cf10_0, cf0_0, cf10_8, cf1_6, cf1_7, cf1_4])
          repeat' apply And.intro
          all_goals try (first | with_reducible assumption | (with_reducible refine ck_nzI ?_; simp; done) | (with_reducible refine ck_nzL ?_; simp; done) | (with_reducible refine vp_in_nI ?_ ?_ <;> first | omega | decide) | (with_reducible refine Nat.le_of_ble_eq_true ?_; rfl) | omega | exact Or.inl trivial | exact Or.inr trivial | exact Or.inl rfl | exact Or.inr rfl)
          refine hC.2.1 95 _ _ _ _ _ _ _ _ _ _ _ _ _ _ _ _ _ lX10_95 (ct_X10_need l G (b := 1) (by decide)) rfl rfl (Nat.le_of_ble_eq_true rfl) (by first | decide | omega) (by decide) (by omega) (by omega) dX10_foretold_34 ?_
          refine hB bX10_foretold_37 _ _ _ _ _ _ _ kX10_foretold_37 ?_
          dsimp only [bX10_foretold_37, kx_wp, kx_step, kx_lI, kx_lL, kx_lA, kx_gl, kx_pI, kx_pL, kx_pR, kx_pA, kx_pV, kx_s1, kx_s2, kx_sl, kx_pre, kx_c2, kx_pl, kx_cmp, kx_oF, kx_eqN, kx_nil, kx_c1, kx_ft, kx_aI, kx_aL, kx_aR, kx_ln, Nat.reduceAdd, Option.toList, List.cons_append, List.nil_append, cf10_0, cf0_0, cf10_8, cf1_6, cf1_7, cf1_4]
          repeat (simp only [hk64, h64, h65, h70, nI_1, nI_add, ks_eq, ks_ss, al0]; try dsimp only [kx_wp, kx_step, kx_lI, kx_lL, kx_lA, kx_gl, kx_pI, kx_pL, kx_pR, kx_pA, kx_pV, kx_s1, kx_s2, kx_sl, kx_pre, kx_c2, kx_pl, kx_cmp, kx_oF, kx_eqN, kx_nil, kx_c1, kx_ft, kx_aI, kx_aL, kx_aR, kx_ln, Nat.reduceAdd, Option.toList, List.cons_append, List.nil_append, cf10_0, cf0_0, cf10_8, cf1_6, cf1_7, cf1_4])
          repeat' apply And.intro
          all_goals try (first | with_reducible assumption | (with_reducible refine ck_nzI ?_; simp; done) | (with_reducible refine ck_nzL ?_; simp; done) | (with_reducible refine vp_in_nI ?_ ?_ <;> first | omega | decide) | (with_reducible refine Nat.le_of_ble_eq_true ?_; rfl) | omega | exact Or.inl trivial | exact Or.inr trivial | exact Or.inl rfl | exact Or.inr rfl)
          refine hC.2.1 132 _ _ _ _ _ _ _ _ _ _ _ _ _ _ _ _ _ lX10_132 (ct_X10_needMinute l G (m := nI (mi + k)) ((nI_leI (a := mi + k) (b := 100000) (by omega) (by omega)).mpr hmk)) rfl rfl (Nat.le_of_ble_eq_true rfl) (by first | decide | omega) (by decide) (by omega) (by omega) dX10_foretold_50 ?_
          refine hB bX10_foretold_53 _ _ _ _ _ _ _ kX10_foretold_53 ?_
          dsimp only [bX10_foretold_53, kx_wp, kx_step, kx_lI, kx_lL, kx_lA, kx_gl, kx_pI, kx_pL, kx_pR, kx_pA, kx_pV, kx_s1, kx_s2, kx_sl, kx_pre, kx_c2, kx_pl, kx_cmp, kx_oF, kx_eqN, kx_nil, kx_c1, kx_ft, kx_aI, kx_aL, kx_aR, kx_ln, Nat.reduceAdd, Option.toList, List.cons_append, List.nil_append, cf10_0, cf0_0, cf10_8, cf1_6, cf1_7, cf1_4]
          repeat (simp only [hk64, h64, h65, h70, nI_1, nI_add, ks_eq, ks_ss]; try dsimp only [kx_wp, kx_step, kx_lI, kx_lL, kx_lA, kx_gl, kx_pI, kx_pL, kx_pR, kx_pA, kx_pV, kx_s1, kx_s2, kx_sl, kx_pre, kx_c2, kx_pl, kx_cmp, kx_oF, kx_eqN, kx_nil, kx_c1, kx_ft, kx_aI, kx_aL, kx_aR, kx_ln, Nat.reduceAdd, Option.toList, List.cons_append, List.nil_append, cf10_0, cf0_0, cf10_8, cf1_6, cf1_7, cf1_4])
          repeat' apply And.intro
          all_goals try (first | with_reducible assumption | (with_reducible refine ck_nzI ?_; simp; done) | (with_reducible refine ck_nzL ?_; simp; done) | (with_reducible refine vp_in_nI ?_ ?_ <;> first | omega | decide) | (with_reducible refine Nat.le_of_ble_eq_true ?_; rfl) | omega | exact Or.inl trivial | exact Or.inr trivial | exact Or.inl rfl | exact Or.inr rfl)
          refine hC.1 326 _ _ _ _ _ _ _ 1 _ _ _ _ _ _ _ _ _ _ _ _ lX10_326 (hb9) ⟨by decide, rfl⟩ (h70) rfl rfl (Nat.le_of_ble_eq_true rfl) (by first | decide | omega) (by decide) (by omega) (by omega) dX10_foretold_59 ?_
          refine hB bX10_foretold_62 _ _ _ _ _ _ _ kX10_foretold_62 ?_
          dsimp only [bX10_foretold_62, kx_wp, kx_step, kx_lI, kx_lL, kx_lA, kx_gl, kx_pI, kx_pL, kx_pR, kx_pA, kx_pV, kx_s1, kx_s2, kx_sl, kx_pre, kx_c2, kx_pl, kx_cmp, kx_oF, kx_eqN, kx_nil, kx_c1, kx_ft, kx_aI, kx_aL, kx_aR, kx_ln, Nat.reduceAdd, Option.toList, List.cons_append, List.nil_append, cf10_0, cf0_0, cf10_8, cf1_6, cf1_7, cf1_4]
          repeat (simp only [hk64, h64, h65, h70, nI_1, nI_add, ks_eq, ks_ss, h64', h65', al0]; try dsimp only [kx_wp, kx_step, kx_lI, kx_lL, kx_lA, kx_gl, kx_pI, kx_pL, kx_pR, kx_pA, kx_pV, kx_s1, kx_s2, kx_sl, kx_pre, kx_c2, kx_pl, kx_cmp, kx_oF, kx_eqN, kx_nil, kx_c1, kx_ft, kx_aI, kx_aL, kx_aR, kx_ln, Nat.reduceAdd, Option.toList, List.cons_append, List.nil_append, cf10_0, cf0_0, cf10_8, cf1_6, cf1_7, cf1_4])
          repeat' apply And.intro
          all_goals try (first | with_reducible assumption | (with_reducible refine ck_nzI ?_; simp; done) | (with_reducible refine ck_nzL ?_; simp; done) | (with_reducible refine vp_in_nI ?_ ?_ <;> first | omega | decide) | (with_reducible refine Nat.le_of_ble_eq_true ?_; rfl) | omega | exact Or.inl trivial | exact Or.inr trivial | exact Or.inl rfl | exact Or.inr rfl)
          have h0 := fun a => loop77 k 0 S0 _ _ a (by omega) (show cF (ck_mns FF cl 0) V T Q Fo St Al _ (L 116 c) c (mi + 0) by rw [hm0]; exact hF0) (by rw [hm0]; exact h94)
          rw [hm0, e51, e52, Nat.add_zero] at h0
          rw [← hP5] at h0
          exact h0 _

set_option maxRecDepth 100000 in
set_option maxHeartbeats 4000000 in
theorem ct_X10_foretold_6 (l : Launch) (G : kx_G) {P : kx_P} {sz : Nat} {M : Nat → Int32} {A : Nat → Nat → Int32} {L : Nat → Nat → Int64} {cl mi sd se : Nat} {bl : Nat → Nat} (hst : cR_st P M A cl se bl) (hdy : cR_dy P A L cl se sz bl (fun _ => mi)) (hm : cR_m M A L cl mi sd) {c k : Nat} (hc : c < cl) (hk1 : 1 ≤ k) (hk2 : k ≤ 3000) (hmk : mi + k ≤ 100000)  : kx_Mn l G sX10_foretold 9 0 0 [.ref 64, .int (nI c), .int (nI k), .int (6)] P sz (fun r P2 s2 => r = some (.int (ck_seenV (ck_mns (ck_fS M A L cl c) cl k) c 6)) ∧ s2 = sz ∧ cR_af P P2 (M, A, L) cl mi se sz bl) := by
  have hcl : cl ≤ 8 := hm.2.2.1
  have haf := fun S1 C1 d gh => cR_af_g hst hdy hm hc S1 C1 d gh
  obtain ⟨⟨K, h64, -, -, hK7, -, -⟩, ⟨Al, h65, al0, al1, al3⟩, p66, -, -, h69, ⟨gv, gd, gh, Cg, h70⟩, -, -, -, -, -, -, -, -, -, -, -, -, -, -, p1, -⟩ := id hst
  rw [hm.2.1] at hK7
  rw [hm.2.2.2.1] at al0
  obtain ⟨V, T, Q, Fo, St, S0, C, Kp, c1, c2, c3, c4, c5, c6⟩ := hdy.2.1 c hc
  have b1 := hdy.1.w hcl hc
  have b2 := hdy.1.c hcl hc
  have b3 := hdy.1.wc hcl hc hc
  have H : cx_R P 70 (bl c) V T Q Fo St Al (A 94) := ⟨b1.2.1, by decide, by omega, by decide, by decide, c1.1, c1.2.1, c1.2.2.1, c1.2.2.2.1, c1.2.2.2.2.1, h65, p66, p1⟩
  obtain ⟨hF0, h94⟩ := cF_0 (P := P) (C1 := upd (upd (upd (upd (upd (upd (upd Cg 4 (C 4)) 5 (C 5)) 6 (C 6)) 7 (C 7)) 8 (C 8)) 9 (C 9)) 10 (C 10)) hm hc c4 c5 al1 al3 (Or.inr ⟨Cg, rfl⟩)
  have hms : ∀ n, ck_mns (ck_fS M A L cl c) cl (n + 1) = ck_mn (ck_mns (ck_fS M A L cl c) cl n) cl := fun _ => rfl
  have hm0 : ck_mns (ck_fS M A L cl c) cl 0 = ck_fS M A L cl c := rfl
  have e51 : (ck_fS M A L cl c).1 51 = 0 := rfl
  have e52 : (ck_fS M A L cl c).1 52 = 0 := rfl
  have hk64 : ∀ S d C, cW P 70 (bl c) S d gh C 64 = kO 10 (kf (cr10 (cR_sv (bl 16))) K) := fun S d C => (cW_o (by decide) (by omega)).trans h64
  have hb9 := ct_X1_become l G (sz := sz) (b := 70) (c := bl (8 + c)) h70 c2 (by omega) (by decide)
  obtain ⟨P5, hP5⟩ : ∃ P5, P5 = cW P 70 (bl c) S0 (L 116 c) gh (upd (upd (upd (upd (upd (upd (upd Cg 4 (C 4)) 5 (C 5)) 6 (C 6)) 7 (C 7)) 8 (C 8)) 9 (C 9)) 10 (C 10)) := ⟨_, rfl⟩
  have hw5 : kx_set P 70 (kO 1 (kf (cr1 (.ref (bl c)) (L 116 c) gh) (upd (upd (upd (upd (upd (upd (upd Cg 4 (C 4)) 5 (C 5)) 6 (C 6)) 7 (C 7)) 8 (C 8)) 9 (C 9)) 10 (C 10)))) = P5 := by
    rw [hP5]; unfold cW; rw [ks_id (P := P) c1.2.2.2.2.2]
  rw [hw5] at hb9
  have h65' : P5 65 = kO 0 (kf cr0 Al) := by rw [hP5, cW_o (by decide) (by omega)]; exact h65
  have h64' : P5 64 = kO 10 (kf (cr10 (cR_sv (bl 16))) K) := by rw [hP5]; exact hk64 _ _ _
  generalize ck_fS M A L cl c = FF at hF0 h94 hms hm0 e51 e52
  refine kx_mkn kx_tab kxLok_X10 (ini := false) [some (.ref 64), some (.int (nI c)), some (.int (nI k)), some (.int (6)), none, none, none, none, none, none] ⟨by decide, rfl, by decide, by decide⟩ (fun _ _ _ h => ⟨_, h.1⟩) rfl rfl (fun g hB hC hN => ?_)
  have loop77 : ∀ (n9 : Nat) (n : Nat) (S1 C1 : Nat → Int32) (d : Int64) (a : Option Value), n + n9 = k → cF (ck_mns FF cl n) V T Q Fo St Al C1 d c (mi + n) → (ck_mns FF cl n).2.1 94 = A 94 → g 77 [some (.ref 64), some (.int (nI c)), some (.int (nI k)), some (.int 6), some (.ref (bl (8 + c))), some (.int (nI (mi + k))), some (.int ((ck_mns FF cl n).1 51)), some (.int ((ck_mns FF cl n).1 52)), some (.int (nI (mi + n))), a] [] (cW P 70 (bl c) S1 d gh C1) sz 0 0 := by
    intro n9
    induction n9 with
    | zero =>
      intro n S1 C1 d a hnk hF h94n
      · obtain rfl : n = k := by omega
        have hres : ck_seenV (ck_mns FF cl n) c 6 = (ck_mns FF cl n).1 52 := rfl
        refine hB bX10_foretold_77 _ _ _ _ _ _ _ kX10_foretold_77 ?_
        dsimp only [bX10_foretold_77, kx_wp, kx_step, kx_lI, kx_lL, kx_lA, kx_gl, kx_pI, kx_pL, kx_pR, kx_pA, kx_pV, kx_s1, kx_s2, kx_sl, kx_pre, kx_c2, kx_pl, kx_cmp, kx_oF, kx_eqN, kx_nil, kx_c1, kx_ft, kx_aI, kx_aL, kx_aR, kx_ln, Nat.reduceAdd, Option.toList, List.cons_append, List.nil_append, cf10_0, cf0_0, cf10_8, cf1_6, cf1_7, cf1_4]
        repeat (simp only [hk64, h64, h65, h70, nI_1, nI_add, ks_eq, ks_ss]; try dsimp only [kx_wp, kx_step, kx_lI, kx_lL, kx_lA, kx_gl, kx_pI, kx_pL, kx_pR, kx_pA, kx_pV, kx_s1, kx_s2, kx_sl, kx_pre, kx_c2, kx_pl, kx_cmp, kx_oF, kx_eqN, kx_nil, kx_c1, kx_ft, kx_aI, kx_aL, kx_aR, kx_ln, Nat.reduceAdd, Option.toList, List.cons_append, List.nil_append, cf10_0, cf0_0, cf10_8, cf1_6, cf1_7, cf1_4])
        repeat' apply And.intro
        all_goals try (first | with_reducible assumption | (with_reducible refine ck_nzI ?_; simp; done) | (with_reducible refine ck_nzL ?_; simp; done) | (with_reducible refine vp_in_nI ?_ ?_ <;> first | omega | decide) | (with_reducible refine Nat.le_of_ble_eq_true ?_; rfl) | omega | exact Or.inl trivial | exact Or.inr trivial | exact Or.inl rfl | exact Or.inr rfl)
        · intro zc81
          with_reducible first | have ze81 := Int32.not_lt.mpr zc81 | have ze81 := zc81
          refine hB bX10_foretold_134 _ _ _ _ _ _ _ kX10_foretold_134 ?_
          dsimp only [bX10_foretold_134, kx_wp, kx_step, kx_lI, kx_lL, kx_lA, kx_gl, kx_pI, kx_pL, kx_pR, kx_pA, kx_pV, kx_s1, kx_s2, kx_sl, kx_pre, kx_c2, kx_pl, kx_cmp, kx_oF, kx_eqN, kx_nil, kx_c1, kx_ft, kx_aI, kx_aL, kx_aR, kx_ln, Nat.reduceAdd, Option.toList, List.cons_append, List.nil_append, cf10_0, cf0_0, cf10_8, cf1_6, cf1_7, cf1_4]
          repeat (simp only [hk64, h64, h65, h70, nI_1, nI_add, ks_eq, ks_ss]; try dsimp only [kx_wp, kx_step, kx_lI, kx_lL, kx_lA, kx_gl, kx_pI, kx_pL, kx_pR, kx_pA, kx_pV, kx_s1, kx_s2, kx_sl, kx_pre, kx_c2, kx_pl, kx_cmp, kx_oF, kx_eqN, kx_nil, kx_c1, kx_ft, kx_aI, kx_aL, kx_aR, kx_ln, Nat.reduceAdd, Option.toList, List.cons_append, List.nil_append, cf10_0, cf0_0, cf10_8, cf1_6, cf1_7, cf1_4])
          repeat' apply And.intro
          all_goals try (first | with_reducible assumption | (with_reducible refine ck_nzI ?_; simp; done) | (with_reducible refine ck_nzL ?_; simp; done) | (with_reducible refine vp_in_nI ?_ ?_ <;> first | omega | decide) | (with_reducible refine Nat.le_of_ble_eq_true ?_; rfl) | omega | exact Or.inl trivial | exact Or.inr trivial | exact Or.inl rfl | exact Or.inr rfl)
          · intro zc135
            refine hB bX10_foretold_217 _ _ _ _ _ _ _ kX10_foretold_217 ?_
            dsimp only [bX10_foretold_217, kx_wp, kx_step, kx_lI, kx_lL, kx_lA, kx_gl, kx_pI, kx_pL, kx_pR, kx_pA, kx_pV, kx_s1, kx_s2, kx_sl, kx_pre, kx_c2, kx_pl, kx_cmp, kx_oF, kx_eqN, kx_nil, kx_c1, kx_ft, kx_aI, kx_aL, kx_aR, kx_ln, Nat.reduceAdd, Option.toList, List.cons_append, List.nil_append, cf10_0, cf0_0, cf10_8, cf1_6, cf1_7, cf1_4]
            repeat (simp only [hk64, h64, h65, h70, nI_1, nI_add, ks_eq, ks_ss]; try dsimp only [kx_wp, kx_step, kx_lI, kx_lL, kx_lA, kx_gl, kx_pI, kx_pL, kx_pR, kx_pA, kx_pV, kx_s1, kx_s2, kx_sl, kx_pre, kx_c2, kx_pl, kx_cmp, kx_oF, kx_eqN, kx_nil, kx_c1, kx_ft, kx_aI, kx_aL, kx_aR, kx_ln, Nat.reduceAdd, Option.toList, List.cons_append, List.nil_append, cf10_0, cf0_0, cf10_8, cf1_6, cf1_7, cf1_4])
            all_goals (repeat' apply And.intro)
            all_goals ((try clear hB hC hN); first | exact True.intro | rfl | (rw [hres]; done) | exact haf _ _ _ _ | decide)
          refine kx_sw (ws := [172, 182, 190, 198, 206, 214]) rfl ?_
          dsimp only [kx_swl]
          exact ⟨fun zc135_0 => absurd zc135_0 (by decide), fun zc135_1 => absurd zc135_1 (by decide), fun zc135_2 => absurd zc135_2 (by decide), fun zc135_3 => absurd zc135_3 (by decide), fun zc135_4 => absurd zc135_4 (by decide), fun zc135_5 => absurd zc135_5 (by decide), trivial⟩
        · intro zc81
          first | exact absurd rfl zc81 | exact absurd zc81 (by decide) | exact absurd (by decide) zc81 | (exfalso; first | exact absurd ((nI_ltI (a := k) (b := 1) (by omega) (by omega)).mp zc9) (by omega) | exact absurd ((nI_ltI (a := 3000) (b := k) (by omega) (by omega)).mp zc16) (by omega) | exact absurd zc20 (by decide) | exact absurd zc26 (by decide) | exact absurd ((nI_leI (a := mi + k) (b := mi + n) (by omega) (by omega)).mp zc81) (by omega) | exact absurd ((nI_leI (a := mi + k) (b := mi + n) (by omega) (by omega)).mpr (by omega)) zc81 | exact absurd ((nI_leI (a := mi + n) (b := mi + n) (by omega) (by omega)).mpr (by omega)) zc81) | (exfalso; simp_all; done)
    | succ n9 ih =>
      intro n S1 C1 d a hnk hF h94n
      · have hk2 : n < k := by omega
        obtain ⟨lf, a9, mo, hf, hd9, ha9, h6, hlf, hmo, hmo2, hstep⟩ := cF_s hF hc hcl (show mi + n < 100000 by omega)
        obtain ⟨S2, d2, C2, he⟩ : ∃ S2 d2 C2, cx_gm V T Q (fun j => (ck_mns FF cl n).2.1 106 (400 * c + j)) (fun j => (ck_mns FF cl n).2.1 107 (400 * c + j)) S1 C1 ((ck_mns FF cl n).2.1 105 c).toNatClampNeg (Al 1) lf a9 mo = (S2, d2, C2) := ⟨_, _, _, rfl⟩
        obtain ⟨hF2, h942, h52, hle, hgt⟩ := hstep S1 S2 d2 C2 he
        rw [← hms] at hF2 h942 h52 hle hgt
        rw [h94n] at hmo h942
        have hg9 := ct_X1_goMinute l G (sz := sz) H (S := S1) (C := C1) (d := d) (h := gh) hf (mi := mi + n) (by omega) hd9 ha9 h6 hlf hmo hmo2
        rw [he] at hg9
        dsimp only at hg9
        have hr9 := ct_X1_heardStrokes l G (sz := sz) (c := 70) (cW_c (P := P) (w := bl c) (S := S2) (C := C2) (d := d2) (h := gh))
        have hk65 : cW P 70 (bl c) S1 d gh C1 65 = kO 0 (kf cr0 Al) := (cW_o (by decide) (by omega)).trans h65
        refine hB bX10_foretold_77 _ _ _ _ _ _ _ kX10_foretold_77 ?_
        dsimp only [bX10_foretold_77, kx_wp, kx_step, kx_lI, kx_lL, kx_lA, kx_gl, kx_pI, kx_pL, kx_pR, kx_pA, kx_pV, kx_s1, kx_s2, kx_sl, kx_pre, kx_c2, kx_pl, kx_cmp, kx_oF, kx_eqN, kx_nil, kx_c1, kx_ft, kx_aI, kx_aL, kx_aR, kx_ln, Nat.reduceAdd, Option.toList, List.cons_append, List.nil_append, cf10_0, cf0_0, cf10_8, cf1_6, cf1_7, cf1_4]
        repeat (simp only [hk64, h64, h65, h70, nI_1, nI_add, ks_eq, ks_ss]; try dsimp only [kx_wp, kx_step, kx_lI, kx_lL, kx_lA, kx_gl, kx_pI, kx_pL, kx_pR, kx_pA, kx_pV, kx_s1, kx_s2, kx_sl, kx_pre, kx_c2, kx_pl, kx_cmp, kx_oF, kx_eqN, kx_nil, kx_c1, kx_ft, kx_aI, kx_aL, kx_aR, kx_ln, Nat.reduceAdd, Option.toList, List.cons_append, List.nil_append, cf10_0, cf0_0, cf10_8, cf1_6, cf1_7, cf1_4])
        repeat' apply And.intro
        all_goals try (first | with_reducible assumption | (with_reducible refine ck_nzI ?_; simp; done) | (with_reducible refine ck_nzL ?_; simp; done) | (with_reducible refine vp_in_nI ?_ ?_ <;> first | omega | decide) | (with_reducible refine Nat.le_of_ble_eq_true ?_; rfl) | omega | exact Or.inl trivial | exact Or.inr trivial | exact Or.inl rfl | exact Or.inr rfl)
        · intro zc81
          first | exact absurd rfl zc81 | exact absurd zc81 (by decide) | exact absurd (by decide) zc81 | (exfalso; first | exact absurd ((nI_ltI (a := k) (b := 1) (by omega) (by omega)).mp zc9) (by omega) | exact absurd ((nI_ltI (a := 3000) (b := k) (by omega) (by omega)).mp zc16) (by omega) | exact absurd zc20 (by decide) | exact absurd zc26 (by decide) | exact absurd ((nI_leI (a := mi + k) (b := mi + n) (by omega) (by omega)).mp zc81) (by omega) | exact absurd ((nI_leI (a := mi + k) (b := mi + n) (by omega) (by omega)).mpr (by omega)) zc81 | exact absurd ((nI_leI (a := mi + n) (b := mi + n) (by omega) (by omega)).mpr (by omega)) zc81) | (exfalso; simp_all; done)
        · intro zc81
          with_reducible first | have ze81 := Int32.not_le.mp zc81 | have ze81 := zc81
          refine hB bX10_foretold_84 _ _ _ _ _ _ _ kX10_foretold_84 ?_
          dsimp only [bX10_foretold_84, kx_wp, kx_step, kx_lI, kx_lL, kx_lA, kx_gl, kx_pI, kx_pL, kx_pR, kx_pA, kx_pV, kx_s1, kx_s2, kx_sl, kx_pre, kx_c2, kx_pl, kx_cmp, kx_oF, kx_eqN, kx_nil, kx_c1, kx_ft, kx_aI, kx_aL, kx_aR, kx_ln, Nat.reduceAdd, Option.toList, List.cons_append, List.nil_append, cf10_0, cf0_0, cf10_8, cf1_6, cf1_7, cf1_4]
          repeat (simp only [hk64, h64, h65, h70, nI_1, nI_add, ks_eq, ks_ss]; try dsimp only [kx_wp, kx_step, kx_lI, kx_lL, kx_lA, kx_gl, kx_pI, kx_pL, kx_pR, kx_pA, kx_pV, kx_s1, kx_s2, kx_sl, kx_pre, kx_c2, kx_pl, kx_cmp, kx_oF, kx_eqN, kx_nil, kx_c1, kx_ft, kx_aI, kx_aL, kx_aR, kx_ln, Nat.reduceAdd, Option.toList, List.cons_append, List.nil_append, cf10_0, cf0_0, cf10_8, cf1_6, cf1_7, cf1_4])
          repeat' apply And.intro
          all_goals try (first | with_reducible assumption | (with_reducible refine ck_nzI ?_; simp; done) | (with_reducible refine ck_nzL ?_; simp; done) | (with_reducible refine vp_in_nI ?_ ?_ <;> first | omega | decide) | (with_reducible refine Nat.le_of_ble_eq_true ?_; rfl) | omega | exact Or.inl trivial | exact Or.inr trivial | exact Or.inl rfl | exact Or.inr rfl)
          refine hC.1 330 _ _ _ _ _ _ _ 1 _ _ _ _ _ _ _ _ _ _ _ _ lX10_330 (hg9) ⟨by decide, rfl⟩ (cW_c) rfl rfl (Nat.le_of_ble_eq_true rfl) (by first | decide | omega) (by decide) (by omega) (by omega) dX10_foretold_94 ?_
          refine hB bX10_foretold_97 _ _ _ _ _ _ _ kX10_foretold_97 ?_
          dsimp only [bX10_foretold_97, kx_wp, kx_step, kx_lI, kx_lL, kx_lA, kx_gl, kx_pI, kx_pL, kx_pR, kx_pA, kx_pV, kx_s1, kx_s2, kx_sl, kx_pre, kx_c2, kx_pl, kx_cmp, kx_oF, kx_eqN, kx_nil, kx_c1, kx_ft, kx_aI, kx_aL, kx_aR, kx_ln, Nat.reduceAdd, Option.toList, List.cons_append, List.nil_append, cf10_0, cf0_0, cf10_8, cf1_6, cf1_7, cf1_4]
          repeat (simp only [hk64, h64, h65, h70, nI_1, nI_add, ks_eq, ks_ss]; try dsimp only [kx_wp, kx_step, kx_lI, kx_lL, kx_lA, kx_gl, kx_pI, kx_pL, kx_pR, kx_pA, kx_pV, kx_s1, kx_s2, kx_sl, kx_pre, kx_c2, kx_pl, kx_cmp, kx_oF, kx_eqN, kx_nil, kx_c1, kx_ft, kx_aI, kx_aL, kx_aR, kx_ln, Nat.reduceAdd, Option.toList, List.cons_append, List.nil_append, cf10_0, cf0_0, cf10_8, cf1_6, cf1_7, cf1_4])
          repeat' apply And.intro
          all_goals try (first | with_reducible assumption | (with_reducible refine ck_nzI ?_; simp; done) | (with_reducible refine ck_nzL ?_; simp; done) | (with_reducible refine vp_in_nI ?_ ?_ <;> first | omega | decide) | (with_reducible refine Nat.le_of_ble_eq_true ?_; rfl) | omega | exact Or.inl trivial | exact Or.inr trivial | exact Or.inl rfl | exact Or.inr rfl)
          refine hC.1 334 _ _ _ _ _ _ _ 1 _ _ _ _ _ _ _ _ _ _ _ _ lX10_334 (hr9) ⟨by decide, rfl⟩ (cW_c) rfl rfl (Nat.le_of_ble_eq_true rfl) (by first | decide | omega) (by decide) (by omega) (by omega) dX10_foretold_101 ?_
          refine hB bX10_foretold_104 _ _ _ _ _ _ _ kX10_foretold_104 ?_
          dsimp only [bX10_foretold_104, kx_wp, kx_step, kx_lI, kx_lL, kx_lA, kx_gl, kx_pI, kx_pL, kx_pR, kx_pA, kx_pV, kx_s1, kx_s2, kx_sl, kx_pre, kx_c2, kx_pl, kx_cmp, kx_oF, kx_eqN, kx_nil, kx_c1, kx_ft, kx_aI, kx_aL, kx_aR, kx_ln, Nat.reduceAdd, Option.toList, List.cons_append, List.nil_append, cf10_0, cf0_0, cf10_8, cf1_6, cf1_7, cf1_4]
          repeat (simp only [hk64, h64, h65, h70, nI_1, nI_add, ks_eq, ks_ss]; try dsimp only [kx_wp, kx_step, kx_lI, kx_lL, kx_lA, kx_gl, kx_pI, kx_pL, kx_pR, kx_pA, kx_pV, kx_s1, kx_s2, kx_sl, kx_pre, kx_c2, kx_pl, kx_cmp, kx_oF, kx_eqN, kx_nil, kx_c1, kx_ft, kx_aI, kx_aL, kx_aR, kx_ln, Nat.reduceAdd, Option.toList, List.cons_append, List.nil_append, cf10_0, cf0_0, cf10_8, cf1_6, cf1_7, cf1_4])
          repeat' apply And.intro
          all_goals try (first | with_reducible assumption | (with_reducible refine ck_nzI ?_; simp; done) | (with_reducible refine ck_nzL ?_; simp; done) | (with_reducible refine vp_in_nI ?_ ?_ <;> first | omega | decide) | (with_reducible refine Nat.le_of_ble_eq_true ?_; rfl) | omega | exact Or.inl trivial | exact Or.inr trivial | exact Or.inl rfl | exact Or.inr rfl)
          · intro zc110
            with_reducible first | have ze110 := Int32.not_lt.mpr zc110 | have ze110 := zc110
            refine hB bX10_foretold_117 _ _ _ _ _ _ _ kX10_foretold_117 ?_
            dsimp only [bX10_foretold_117, kx_wp, kx_step, kx_lI, kx_lL, kx_lA, kx_gl, kx_pI, kx_pL, kx_pR, kx_pA, kx_pV, kx_s1, kx_s2, kx_sl, kx_pre, kx_c2, kx_pl, kx_cmp, kx_oF, kx_eqN, kx_nil, kx_c1, kx_ft, kx_aI, kx_aL, kx_aR, kx_ln, Nat.reduceAdd, Option.toList, List.cons_append, List.nil_append, cf10_0, cf0_0, cf10_8, cf1_6, cf1_7, cf1_4]
            repeat (simp only [hk64, h64, h65, h70, nI_1, nI_add, ks_eq, ks_ss]; try dsimp only [kx_wp, kx_step, kx_lI, kx_lL, kx_lA, kx_gl, kx_pI, kx_pL, kx_pR, kx_pA, kx_pV, kx_s1, kx_s2, kx_sl, kx_pre, kx_c2, kx_pl, kx_cmp, kx_oF, kx_eqN, kx_nil, kx_c1, kx_ft, kx_aI, kx_aL, kx_aR, kx_ln, Nat.reduceAdd, Option.toList, List.cons_append, List.nil_append, cf10_0, cf0_0, cf10_8, cf1_6, cf1_7, cf1_4])
            repeat' apply And.intro
            all_goals try (first | with_reducible assumption | (with_reducible refine ck_nzI ?_; simp; done) | (with_reducible refine ck_nzL ?_; simp; done) | (with_reducible refine vp_in_nI ?_ ?_ <;> first | omega | decide) | (with_reducible refine Nat.le_of_ble_eq_true ?_; rfl) | omega | exact Or.inl trivial | exact Or.inr trivial | exact Or.inl rfl | exact Or.inr rfl)
            refine hB bX10_foretold_118 _ _ _ _ _ _ _ kX10_foretold_118 ?_
            dsimp only [bX10_foretold_118, kx_wp, kx_step, kx_lI, kx_lL, kx_lA, kx_gl, kx_pI, kx_pL, kx_pR, kx_pA, kx_pV, kx_s1, kx_s2, kx_sl, kx_pre, kx_c2, kx_pl, kx_cmp, kx_oF, kx_eqN, kx_nil, kx_c1, kx_ft, kx_aI, kx_aL, kx_aR, kx_ln, Nat.reduceAdd, Option.toList, List.cons_append, List.nil_append, cf10_0, cf0_0, cf10_8, cf1_6, cf1_7, cf1_4]
            repeat (simp only [hk64, h64, h65, h70, nI_1, nI_add, ks_eq, ks_ss]; try dsimp only [kx_wp, kx_step, kx_lI, kx_lL, kx_lA, kx_gl, kx_pI, kx_pL, kx_pR, kx_pA, kx_pV, kx_s1, kx_s2, kx_sl, kx_pre, kx_c2, kx_pl, kx_cmp, kx_oF, kx_eqN, kx_nil, kx_c1, kx_ft, kx_aI, kx_aL, kx_aR, kx_ln, Nat.reduceAdd, Option.toList, List.cons_append, List.nil_append, cf10_0, cf0_0, cf10_8, cf1_6, cf1_7, cf1_4])
            repeat' apply And.intro
            all_goals try (first | with_reducible assumption | (with_reducible refine ck_nzI ?_; simp; done) | (with_reducible refine ck_nzL ?_; simp; done) | (with_reducible refine vp_in_nI ?_ ?_ <;> first | omega | decide) | (with_reducible refine Nat.le_of_ble_eq_true ?_; rfl) | omega | exact Or.inl trivial | exact Or.inr trivial | exact Or.inl rfl | exact Or.inr rfl)
            have hih := fun a => ih (n + 1) S2 C2 d2 a (by omega) hF2 h942
            rw [h52, show mi + (n + 1) = mi + n + 1 from rfl] at hih
            first | (rw [hle zc110] at hih; exact hih _) | (rw [hgt zc110] at hih; exact hih _)
          · intro zc110
            with_reducible first | have ze110 := Int32.not_le.mp zc110 | have ze110 := zc110
            refine hB bX10_foretold_113 _ _ _ _ _ _ _ kX10_foretold_113 ?_
            dsimp only [bX10_foretold_113, kx_wp, kx_step, kx_lI, kx_lL, kx_lA, kx_gl, kx_pI, kx_pL, kx_pR, kx_pA, kx_pV, kx_s1, kx_s2, kx_sl, kx_pre, kx_c2, kx_pl, kx_cmp, kx_oF, kx_eqN, kx_nil, kx_c1, kx_ft, kx_aI, kx_aL, kx_aR, kx_ln, Nat.reduceAdd, Option.toList, List.cons_append, List.nil_append, cf10_0, cf0_0, cf10_8, cf1_6, cf1_7, cf1_4]
            repeat (simp only [hk64, h64, h65, h70, nI_1, nI_add, ks_eq, ks_ss]; try dsimp only [kx_wp, kx_step, kx_lI, kx_lL, kx_lA, kx_gl, kx_pI, kx_pL, kx_pR, kx_pA, kx_pV, kx_s1, kx_s2, kx_sl, kx_pre, kx_c2, kx_pl, kx_cmp, kx_oF, kx_eqN, kx_nil, kx_c1, kx_ft, kx_aI, kx_aL, kx_aR, kx_ln, Nat.reduceAdd, Option.toList, List.cons_append, List.nil_append, cf10_0, cf0_0, cf10_8, cf1_6, cf1_7, cf1_4])
            repeat' apply And.intro
            all_goals try (first | with_reducible assumption | (with_reducible refine ck_nzI ?_; simp; done) | (with_reducible refine ck_nzL ?_; simp; done) | (with_reducible refine vp_in_nI ?_ ?_ <;> first | omega | decide) | (with_reducible refine Nat.le_of_ble_eq_true ?_; rfl) | omega | exact Or.inl trivial | exact Or.inr trivial | exact Or.inl rfl | exact Or.inr rfl)
            refine hB bX10_foretold_118 _ _ _ _ _ _ _ kX10_foretold_118 ?_
            dsimp only [bX10_foretold_118, kx_wp, kx_step, kx_lI, kx_lL, kx_lA, kx_gl, kx_pI, kx_pL, kx_pR, kx_pA, kx_pV, kx_s1, kx_s2, kx_sl, kx_pre, kx_c2, kx_pl, kx_cmp, kx_oF, kx_eqN, kx_nil, kx_c1, kx_ft, kx_aI, kx_aL, kx_aR, kx_ln, Nat.reduceAdd, Option.toList, List.cons_append, List.nil_append, cf10_0, cf0_0, cf10_8, cf1_6, cf1_7, cf1_4]
            repeat (simp only [hk64, h64, h65, h70, nI_1, nI_add, ks_eq, ks_ss]; try dsimp only [kx_wp, kx_step, kx_lI, kx_lL, kx_lA, kx_gl, kx_pI, kx_pL, kx_pR, kx_pA, kx_pV, kx_s1, kx_s2, kx_sl, kx_pre, kx_c2, kx_pl, kx_cmp, kx_oF, kx_eqN, kx_nil, kx_c1, kx_ft, kx_aI, kx_aL, kx_aR, kx_ln, Nat.reduceAdd, Option.toList, List.cons_append, List.nil_append, cf10_0, cf0_0, cf10_8, cf1_6, cf1_7, cf1_4])
            repeat' apply And.intro
            all_goals try (first | with_reducible assumption | (with_reducible refine ck_nzI ?_; simp; done) | (with_reducible refine ck_nzL ?_; simp; done) | (with_reducible refine vp_in_nI ?_ ?_ <;> first | omega | decide) | (with_reducible refine Nat.le_of_ble_eq_true ?_; rfl) | omega | exact Or.inl trivial | exact Or.inr trivial | exact Or.inl rfl | exact Or.inr rfl)
            have hih := fun a => ih (n + 1) S2 C2 d2 a (by omega) hF2 h942
            rw [h52, show mi + (n + 1) = mi + n + 1 from rfl] at hih
            first | (rw [hle zc110] at hih; exact hih _) | (rw [hgt zc110] at hih; exact hih _)
  refine hB bX10_foretold_0 _ _ _ _ _ _ _ kX10_foretold_0 ?_
  dsimp only [bX10_foretold_0, kx_wp, kx_step, kx_lI, kx_lL, kx_lA, kx_gl, kx_pI, kx_pL, kx_pR, kx_pA, kx_pV, kx_s1, kx_s2, kx_sl, kx_pre, kx_c2, kx_pl, kx_cmp, kx_oF, kx_eqN, kx_nil, kx_c1, kx_ft, kx_aI, kx_aL, kx_aR, kx_ln, Nat.reduceAdd, Option.toList, List.cons_append, List.nil_append, cf10_0, cf0_0, cf10_8, cf1_6, cf1_7, cf1_4]
  repeat (simp only [hk64, h64, h65, h70, nI_1, nI_add, ks_eq, ks_ss]; try dsimp only [kx_wp, kx_step, kx_lI, kx_lL, kx_lA, kx_gl, kx_pI, kx_pL, kx_pR, kx_pA, kx_pV, kx_s1, kx_s2, kx_sl, kx_pre, kx_c2, kx_pl, kx_cmp, kx_oF, kx_eqN, kx_nil, kx_c1, kx_ft, kx_aI, kx_aL, kx_aR, kx_ln, Nat.reduceAdd, Option.toList, List.cons_append, List.nil_append, cf10_0, cf0_0, cf10_8, cf1_6, cf1_7, cf1_4])
  repeat' apply And.intro
  all_goals try (first | with_reducible assumption | (with_reducible refine ck_nzI ?_; simp; done) | (with_reducible refine ck_nzL ?_; simp; done) | (with_reducible refine vp_in_nI ?_ ?_ <;> first | omega | decide) | (with_reducible refine Nat.le_of_ble_eq_true ?_; rfl) | omega | exact Or.inl trivial | exact Or.inr trivial | exact Or.inl rfl | exact Or.inr rfl)
  refine hC.1 138 _ _ _ _ _ _ _ 10 _ _ _ _ _ _ _ _ _ _ _ _ lX10_138 (ct_X10_theClock l G h64 h69 hK7 hcl hc) ⟨by decide, rfl⟩ (h64) rfl rfl (Nat.le_of_ble_eq_true rfl) (by first | decide | omega) (by decide) (by omega) (by omega) dX10_foretold_2 ?_
  refine hB bX10_foretold_5 _ _ _ _ _ _ _ kX10_foretold_5 ?_
  dsimp only [bX10_foretold_5, kx_wp, kx_step, kx_lI, kx_lL, kx_lA, kx_gl, kx_pI, kx_pL, kx_pR, kx_pA, kx_pV, kx_s1, kx_s2, kx_sl, kx_pre, kx_c2, kx_pl, kx_cmp, kx_oF, kx_eqN, kx_nil, kx_c1, kx_ft, kx_aI, kx_aL, kx_aR, kx_ln, Nat.reduceAdd, Option.toList, List.cons_append, List.nil_append, cf10_0, cf0_0, cf10_8, cf1_6, cf1_7, cf1_4]
  repeat (simp only [hk64, h64, h65, h70, nI_1, nI_add, ks_eq, ks_ss]; try dsimp only [kx_wp, kx_step, kx_lI, kx_lL, kx_lA, kx_gl, kx_pI, kx_pL, kx_pR, kx_pA, kx_pV, kx_s1, kx_s2, kx_sl, kx_pre, kx_c2, kx_pl, kx_cmp, kx_oF, kx_eqN, kx_nil, kx_c1, kx_ft, kx_aI, kx_aL, kx_aR, kx_ln, Nat.reduceAdd, Option.toList, List.cons_append, List.nil_append, cf10_0, cf0_0, cf10_8, cf1_6, cf1_7, cf1_4])
  repeat' apply And.intro
  all_goals try (first | with_reducible assumption | (with_reducible refine ck_nzI ?_; simp; done) | (with_reducible refine ck_nzL ?_; simp; done) | (with_reducible refine vp_in_nI ?_ ?_ <;> first | omega | decide) | (with_reducible refine Nat.le_of_ble_eq_true ?_; rfl) | omega | exact Or.inl trivial | exact Or.inr trivial | exact Or.inl rfl | exact Or.inr rfl)
  · intro zc9
    first | exact absurd rfl zc9 | exact absurd zc9 (by decide) | exact absurd (by decide) zc9 | (exfalso; first | exact absurd ((nI_ltI (a := k) (b := 1) (by omega) (by omega)).mp zc9) (by omega) | exact absurd ((nI_ltI (a := 3000) (b := k) (by omega) (by omega)).mp zc16) (by omega) | exact absurd zc20 (by decide) | exact absurd zc26 (by decide) | exact absurd ((nI_leI (a := mi + k) (b := mi + n) (by omega) (by omega)).mp zc81) (by omega) | exact absurd ((nI_leI (a := mi + k) (b := mi + n) (by omega) (by omega)).mpr (by omega)) zc81 | exact absurd ((nI_leI (a := mi + n) (b := mi + n) (by omega) (by omega)).mpr (by omega)) zc81) | (exfalso; simp_all; done)
  · intro zc9
    with_reducible first | have ze9 := Int32.not_lt.mp zc9 | have ze9 := zc9
    refine hB bX10_foretold_12 _ _ _ _ _ _ _ kX10_foretold_12 ?_
    dsimp only [bX10_foretold_12, kx_wp, kx_step, kx_lI, kx_lL, kx_lA, kx_gl, kx_pI, kx_pL, kx_pR, kx_pA, kx_pV, kx_s1, kx_s2, kx_sl, kx_pre, kx_c2, kx_pl, kx_cmp, kx_oF, kx_eqN, kx_nil, kx_c1, kx_ft, kx_aI, kx_aL, kx_aR, kx_ln, Nat.reduceAdd, Option.toList, List.cons_append, List.nil_append, cf10_0, cf0_0, cf10_8, cf1_6, cf1_7, cf1_4]
    repeat (simp only [hk64, h64, h65, h70, nI_1, nI_add, ks_eq, ks_ss]; try dsimp only [kx_wp, kx_step, kx_lI, kx_lL, kx_lA, kx_gl, kx_pI, kx_pL, kx_pR, kx_pA, kx_pV, kx_s1, kx_s2, kx_sl, kx_pre, kx_c2, kx_pl, kx_cmp, kx_oF, kx_eqN, kx_nil, kx_c1, kx_ft, kx_aI, kx_aL, kx_aR, kx_ln, Nat.reduceAdd, Option.toList, List.cons_append, List.nil_append, cf10_0, cf0_0, cf10_8, cf1_6, cf1_7, cf1_4])
    repeat' apply And.intro
    all_goals try (first | with_reducible assumption | (with_reducible refine ck_nzI ?_; simp; done) | (with_reducible refine ck_nzL ?_; simp; done) | (with_reducible refine vp_in_nI ?_ ?_ <;> first | omega | decide) | (with_reducible refine Nat.le_of_ble_eq_true ?_; rfl) | omega | exact Or.inl trivial | exact Or.inr trivial | exact Or.inl rfl | exact Or.inr rfl)
    · intro zc16
      first | exact absurd rfl zc16 | exact absurd zc16 (by decide) | exact absurd (by decide) zc16 | (exfalso; first | exact absurd ((nI_ltI (a := k) (b := 1) (by omega) (by omega)).mp zc9) (by omega) | exact absurd ((nI_ltI (a := 3000) (b := k) (by omega) (by omega)).mp zc16) (by omega) | exact absurd zc20 (by decide) | exact absurd zc26 (by decide) | exact absurd ((nI_leI (a := mi + k) (b := mi + n) (by omega) (by omega)).mp zc81) (by omega) | exact absurd ((nI_leI (a := mi + k) (b := mi + n) (by omega) (by omega)).mpr (by omega)) zc81 | exact absurd ((nI_leI (a := mi + n) (b := mi + n) (by omega) (by omega)).mpr (by omega)) zc81) | (exfalso; simp_all; done)
    · intro zc16
      with_reducible first | have ze16 := Int32.not_lt.mp zc16 | have ze16 := zc16
      refine hB bX10_foretold_19 _ _ _ _ _ _ _ kX10_foretold_19 ?_
      dsimp only [bX10_foretold_19, kx_wp, kx_step, kx_lI, kx_lL, kx_lA, kx_gl, kx_pI, kx_pL, kx_pR, kx_pA, kx_pV, kx_s1, kx_s2, kx_sl, kx_pre, kx_c2, kx_pl, kx_cmp, kx_oF, kx_eqN, kx_nil, kx_c1, kx_ft, kx_aI, kx_aL, kx_aR, kx_ln, Nat.reduceAdd, Option.toList, List.cons_append, List.nil_append, cf10_0, cf0_0, cf10_8, cf1_6, cf1_7, cf1_4]
      repeat (simp only [hk64, h64, h65, h70, nI_1, nI_add, ks_eq, ks_ss]; try dsimp only [kx_wp, kx_step, kx_lI, kx_lL, kx_lA, kx_gl, kx_pI, kx_pL, kx_pR, kx_pA, kx_pV, kx_s1, kx_s2, kx_sl, kx_pre, kx_c2, kx_pl, kx_cmp, kx_oF, kx_eqN, kx_nil, kx_c1, kx_ft, kx_aI, kx_aL, kx_aR, kx_ln, Nat.reduceAdd, Option.toList, List.cons_append, List.nil_append, cf10_0, cf0_0, cf10_8, cf1_6, cf1_7, cf1_4])
      repeat' apply And.intro
      all_goals try (first | with_reducible assumption | (with_reducible refine ck_nzI ?_; simp; done) | (with_reducible refine ck_nzL ?_; simp; done) | (with_reducible refine vp_in_nI ?_ ?_ <;> first | omega | decide) | (with_reducible refine Nat.le_of_ble_eq_true ?_; rfl) | omega | exact Or.inl trivial | exact Or.inr trivial | exact Or.inl rfl | exact Or.inr rfl)
      · intro zc20
        first | exact absurd rfl zc20 | exact absurd zc20 (by decide) | exact absurd (by decide) zc20 | (exfalso; first | exact absurd ((nI_ltI (a := k) (b := 1) (by omega) (by omega)).mp zc9) (by omega) | exact absurd ((nI_ltI (a := 3000) (b := k) (by omega) (by omega)).mp zc16) (by omega) | exact absurd zc20 (by decide) | exact absurd zc26 (by decide) | exact absurd ((nI_leI (a := mi + k) (b := mi + n) (by omega) (by omega)).mp zc81) (by omega) | exact absurd ((nI_leI (a := mi + k) (b := mi + n) (by omega) (by omega)).mpr (by omega)) zc81 | exact absurd ((nI_leI (a := mi + n) (b := mi + n) (by omega) (by omega)).mpr (by omega)) zc81) | (exfalso; simp_all; done)
      · intro zc20
        with_reducible first | have ze20 := Int32.not_lt.mp zc20 | have ze20 := zc20
        refine hB bX10_foretold_23 _ _ _ _ _ _ _ kX10_foretold_23 ?_
        dsimp only [bX10_foretold_23, kx_wp, kx_step, kx_lI, kx_lL, kx_lA, kx_gl, kx_pI, kx_pL, kx_pR, kx_pA, kx_pV, kx_s1, kx_s2, kx_sl, kx_pre, kx_c2, kx_pl, kx_cmp, kx_oF, kx_eqN, kx_nil, kx_c1, kx_ft, kx_aI, kx_aL, kx_aR, kx_ln, Nat.reduceAdd, Option.toList, List.cons_append, List.nil_append, cf10_0, cf0_0, cf10_8, cf1_6, cf1_7, cf1_4]
        repeat (simp only [hk64, h64, h65, h70, nI_1, nI_add, ks_eq, ks_ss]; try dsimp only [kx_wp, kx_step, kx_lI, kx_lL, kx_lA, kx_gl, kx_pI, kx_pL, kx_pR, kx_pA, kx_pV, kx_s1, kx_s2, kx_sl, kx_pre, kx_c2, kx_pl, kx_cmp, kx_oF, kx_eqN, kx_nil, kx_c1, kx_ft, kx_aI, kx_aL, kx_aR, kx_ln, Nat.reduceAdd, Option.toList, List.cons_append, List.nil_append, cf10_0, cf0_0, cf10_8, cf1_6, cf1_7, cf1_4])
        repeat' apply And.intro
        all_goals try (first | with_reducible assumption | (with_reducible refine ck_nzI ?_; simp; done) | (with_reducible refine ck_nzL ?_; simp; done) | (with_reducible refine vp_in_nI ?_ ?_ <;> first | omega | decide) | (with_reducible refine Nat.le_of_ble_eq_true ?_; rfl) | omega | exact Or.inl trivial | exact Or.inr trivial | exact Or.inl rfl | exact Or.inr rfl)
        · intro zc26
          first | exact absurd rfl zc26 | exact absurd zc26 (by decide) | exact absurd (by decide) zc26 | (exfalso; first | exact absurd ((nI_ltI (a := k) (b := 1) (by omega) (by omega)).mp zc9) (by omega) | exact absurd ((nI_ltI (a := 3000) (b := k) (by omega) (by omega)).mp zc16) (by omega) | exact absurd zc20 (by decide) | exact absurd zc26 (by decide) | exact absurd ((nI_leI (a := mi + k) (b := mi + n) (by omega) (by omega)).mp zc81) (by omega) | exact absurd ((nI_leI (a := mi + k) (b := mi + n) (by omega) (by omega)).mpr (by omega)) zc81 | exact absurd ((nI_leI (a := mi + n) (b := mi + n) (by omega) (by omega)).mpr (by omega)) zc81) | (exfalso; simp_all; done)
        · intro zc26
          with_reducible first | have ze26 := Int32.not_lt.mp zc26 | have ze26 := zc26
          refine hB bX10_foretold_29 _ _ _ _ _ _ _ kX10_foretold_29 ?_
          dsimp only [bX10_foretold_29, kx_wp, kx_step, kx_lI, kx_lL, kx_lA, kx_gl, kx_pI, kx_pL, kx_pR, kx_pA, kx_pV, kx_s1, kx_s2, kx_sl, kx_pre, kx_c2, kx_pl, kx_cmp, kx_oF, kx_eqN, kx_nil, kx_c1, kx_ft, kx_aI, kx_aL, kx_aR, kx_ln, Nat.reduceAdd, Option.toList, List.cons_append, List.nil_append, cf10_0, cf0_0, cf10_8, cf1_6, cf1_7, cf1_4]
          repeat (simp only [hk64, h64, h65, h70, nI_1, nI_add, ks_eq, ks_ss]; try dsimp only [kx_wp, kx_step, kx_lI, kx_lL, kx_lA, kx_gl, kx_pI, kx_pL, kx_pR, kx_pA, kx_pV, kx_s1, kx_s2, kx_sl, kx_pre, kx_c2, kx_pl, kx_cmp, kx_oF, kx_eqN, kx_nil, kx_c1, kx_ft, kx_aI, kx_aL, kx_aR, kx_ln, Nat.reduceAdd, Option.toList, List.cons_append, List.nil_append, cf10_0, cf0_0, cf10_8, cf1_6, cf1_7, cf1_4])
          repeat' apply And.intro
          all_goals try (first | with_reducible assumption | (with_reducible refine ck_nzI ?_; simp; done) | (with_reducible refine ck_nzL ?_; simp; done) | (with_reducible refine vp_in_nI ?_ ?_ <;> first | omega | decide) | (with_reducible refine Nat.le_of_ble_eq_true ?_; rfl) | omega | exact Or.inl trivial | exact Or.inr trivial | exact Or.inl rfl | exact Or.inr rfl)
          refine hC.2.1 95 _ _ _ _ _ _ _ _ _ _ _ _ _ _ _ _ _ lX10_95 (ct_X10_need l G (b := 1) (by decide)) rfl rfl (Nat.le_of_ble_eq_true rfl) (by first | decide | omega) (by decide) (by omega) (by omega) dX10_foretold_34 ?_
          refine hB bX10_foretold_37 _ _ _ _ _ _ _ kX10_foretold_37 ?_
          dsimp only [bX10_foretold_37, kx_wp, kx_step, kx_lI, kx_lL, kx_lA, kx_gl, kx_pI, kx_pL, kx_pR, kx_pA, kx_pV, kx_s1, kx_s2, kx_sl, kx_pre, kx_c2, kx_pl, kx_cmp, kx_oF, kx_eqN, kx_nil, kx_c1, kx_ft, kx_aI, kx_aL, kx_aR, kx_ln, Nat.reduceAdd, Option.toList, List.cons_append, List.nil_append, cf10_0, cf0_0, cf10_8, cf1_6, cf1_7, cf1_4]
          repeat (simp only [hk64, h64, h65, h70, nI_1, nI_add, ks_eq, ks_ss, al0]; try dsimp only [kx_wp, kx_step, kx_lI, kx_lL, kx_lA, kx_gl, kx_pI, kx_pL, kx_pR, kx_pA, kx_pV, kx_s1, kx_s2, kx_sl, kx_pre, kx_c2, kx_pl, kx_cmp, kx_oF, kx_eqN, kx_nil, kx_c1, kx_ft, kx_aI, kx_aL, kx_aR, kx_ln, Nat.reduceAdd, Option.toList, List.cons_append, List.nil_append, cf10_0, cf0_0, cf10_8, cf1_6, cf1_7, cf1_4])
          repeat' apply And.intro
          all_goals try (first | with_reducible assumption | (with_reducible refine ck_nzI ?_; simp; done) | (with_reducible refine ck_nzL ?_; simp; done) | (with_reducible refine vp_in_nI ?_ ?_ <;> first | omega | decide) | (with_reducible refine Nat.le_of_ble_eq_true ?_; rfl) | omega | exact Or.inl trivial | exact Or.inr trivial | exact Or.inl rfl | exact Or.inr rfl)
          refine hC.2.1 132 _ _ _ _ _ _ _ _ _ _ _ _ _ _ _ _ _ lX10_132 (ct_X10_needMinute l G (m := nI (mi + k)) ((nI_leI (a := mi + k) (b := 100000) (by omega) (by omega)).mpr hmk)) rfl rfl (Nat.le_of_ble_eq_true rfl) (by first | decide | omega) (by decide) (by omega) (by omega) dX10_foretold_50 ?_
          refine hB bX10_foretold_53 _ _ _ _ _ _ _ kX10_foretold_53 ?_
          dsimp only [bX10_foretold_53, kx_wp, kx_step, kx_lI, kx_lL, kx_lA, kx_gl, kx_pI, kx_pL, kx_pR, kx_pA, kx_pV, kx_s1, kx_s2, kx_sl, kx_pre, kx_c2, kx_pl, kx_cmp, kx_oF, kx_eqN, kx_nil, kx_c1, kx_ft, kx_aI, kx_aL, kx_aR, kx_ln, Nat.reduceAdd, Option.toList, List.cons_append, List.nil_append, cf10_0, cf0_0, cf10_8, cf1_6, cf1_7, cf1_4]
          repeat (simp only [hk64, h64, h65, h70, nI_1, nI_add, ks_eq, ks_ss]; try dsimp only [kx_wp, kx_step, kx_lI, kx_lL, kx_lA, kx_gl, kx_pI, kx_pL, kx_pR, kx_pA, kx_pV, kx_s1, kx_s2, kx_sl, kx_pre, kx_c2, kx_pl, kx_cmp, kx_oF, kx_eqN, kx_nil, kx_c1, kx_ft, kx_aI, kx_aL, kx_aR, kx_ln, Nat.reduceAdd, Option.toList, List.cons_append, List.nil_append, cf10_0, cf0_0, cf10_8, cf1_6, cf1_7, cf1_4])
          repeat' apply And.intro
          all_goals try (first | with_reducible assumption | (with_reducible refine ck_nzI ?_; simp; done) | (with_reducible refine ck_nzL ?_; simp; done) | (with_reducible refine vp_in_nI ?_ ?_ <;> first | omega | decide) | (with_reducible refine Nat.le_of_ble_eq_true ?_; rfl) | omega | exact Or.inl trivial | exact Or.inr trivial | exact Or.inl rfl | exact Or.inr rfl)
          refine hC.1 326 _ _ _ _ _ _ _ 1 _ _ _ _ _ _ _ _ _ _ _ _ lX10_326 (hb9) ⟨by decide, rfl⟩ (h70) rfl rfl (Nat.le_of_ble_eq_true rfl) (by first | decide | omega) (by decide) (by omega) (by omega) dX10_foretold_59 ?_
          refine hB bX10_foretold_62 _ _ _ _ _ _ _ kX10_foretold_62 ?_
          dsimp only [bX10_foretold_62, kx_wp, kx_step, kx_lI, kx_lL, kx_lA, kx_gl, kx_pI, kx_pL, kx_pR, kx_pA, kx_pV, kx_s1, kx_s2, kx_sl, kx_pre, kx_c2, kx_pl, kx_cmp, kx_oF, kx_eqN, kx_nil, kx_c1, kx_ft, kx_aI, kx_aL, kx_aR, kx_ln, Nat.reduceAdd, Option.toList, List.cons_append, List.nil_append, cf10_0, cf0_0, cf10_8, cf1_6, cf1_7, cf1_4]
          repeat (simp only [hk64, h64, h65, h70, nI_1, nI_add, ks_eq, ks_ss, h64', h65', al0]; try dsimp only [kx_wp, kx_step, kx_lI, kx_lL, kx_lA, kx_gl, kx_pI, kx_pL, kx_pR, kx_pA, kx_pV, kx_s1, kx_s2, kx_sl, kx_pre, kx_c2, kx_pl, kx_cmp, kx_oF, kx_eqN, kx_nil, kx_c1, kx_ft, kx_aI, kx_aL, kx_aR, kx_ln, Nat.reduceAdd, Option.toList, List.cons_append, List.nil_append, cf10_0, cf0_0, cf10_8, cf1_6, cf1_7, cf1_4])
          repeat' apply And.intro
          all_goals try (first | with_reducible assumption | (with_reducible refine ck_nzI ?_; simp; done) | (with_reducible refine ck_nzL ?_; simp; done) | (with_reducible refine vp_in_nI ?_ ?_ <;> first | omega | decide) | (with_reducible refine Nat.le_of_ble_eq_true ?_; rfl) | omega | exact Or.inl trivial | exact Or.inr trivial | exact Or.inl rfl | exact Or.inr rfl)
          have h0 := fun a => loop77 k 0 S0 _ _ a (by omega) (show cF (ck_mns FF cl 0) V T Q Fo St Al _ (L 116 c) c (mi + 0) by rw [hm0]; exact hF0) (by rw [hm0]; exact h94)
          rw [hm0, e51, e52, Nat.add_zero] at h0
          rw [← hP5] at h0
          exact h0 _


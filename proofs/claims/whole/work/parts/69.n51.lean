def ck_rdM (M : Nat → Int32) (n : Nat) (Q : ck_Qt) : Nat → Int32 := upd (ck_pM (ck_qM (upd M 6 (nI n)) Q.2.1 Q.2.2.1 Q.2.2.2.1) Q.1.1 Q.1.2.1 Q.1.2.2.1 Q.1.2.2.2.1 Q.1.2.2.2.2.1) 14 Q.1.2.1
def ck_rdA (A : Nat → Nat → Int32) (Q : ck_Qt) : Nat → Nat → Int32 := ck_pA (ck_qA A Q.2.2.2.2.1 Q.2.2.2.2.2) Q.1.2.2.2.2.2.1 Q.1.2.2.2.2.2.2
theorem ck_rd_b (x : Int32) : (if x = -1 then (1 : Int32) else 0) = 0 ∨ (if x = -1 then (1 : Int32) else 0) = 1 := by
  split
  · exact Or.inr rfl
  · exact Or.inl rfl

def bX11_reads_0 : List kx_O := [(.aload_n 0, 0, 0, 0, .null), (.iload_n 1, 1, 0, 0, .null), (.putfield 201, 11, 6, 0, .null), (.aload_n 0, 0, 0, 0, .null), (.iconst 0, 0, 0, 0, .int 0), (.putfield 198, 11, 7, 0, .null), (.aload_n 0, 0, 0, 0, .null), (.iconst (-1), 0, 0, 0, .int (-1)), (.putfield 192, 11, 8, 0, .null), (.aload_n 0, 0, 0, 0, .null), (.iconst 0, 0, 0, 0, .int 0), (.putfield 322, 11, 10, 0, .null), (.aload_n 0, 0, 0, 0, .null)]
theorem kX11_reads_0 : kx_oks kxL_X11 false cX11_reads 0 bX11_reads_0 = true := by decide +kernel
def bX11_reads_24 : List kx_O := [(.aload_n 0, 0, 0, 0, .null)]
theorem kX11_reads_24 : kx_oks kxL_X11 false cX11_reads 24 bX11_reads_24 = true := by decide +kernel
def bX11_reads_28 : List kx_O := [(.ifCond .eq 17, 45, 0, 0, .null)]
theorem kX11_reads_28 : kx_oks kxL_X11 false cX11_reads 28 bX11_reads_28 = true := by decide +kernel
def bX11_reads_31 : List kx_O := [(.aload_n 0, 0, 0, 0, .null)]
theorem kX11_reads_31 : kx_oks kxL_X11 false cX11_reads 31 bX11_reads_31 = true := by decide +kernel
def bX11_reads_35 : List kx_O := [(.ifCond .eq 10, 45, 0, 0, .null)]
theorem kX11_reads_35 : kx_oks kxL_X11 false cX11_reads 35 bX11_reads_35 = true := by decide +kernel
def bX11_reads_38 : List kx_O := [(.aload_n 0, 0, 0, 0, .null)]
theorem kX11_reads_38 : kx_oks kxL_X11 false cX11_reads 38 bX11_reads_38 = true := by decide +kernel
def bX11_reads_42 : List kx_O := [(.goto (-18), 24, 0, 0, .null)]
theorem kX11_reads_42 : kx_oks kxL_X11 false cX11_reads 42 bX11_reads_42 = true := by decide +kernel
def bX11_reads_45 : List kx_O := [(.aload_n 0, 0, 0, 0, .null), (.aload_n 0, 0, 0, 0, .null), (.getfield 192, 11, 8, 0, .null), (.putfield 17, 11, 14, 0, .null), (.aload_n 0, 0, 0, 0, .null)]
theorem kX11_reads_45 : kx_oks kxL_X11 false cX11_reads 45 bX11_reads_45 = true := by decide +kernel
def bX11_reads_57 : List kx_O := [(.ireturn, 0, 0, 0, .null)]
theorem kX11_reads_57 : kx_oks kxL_X11 false cX11_reads 57 bX11_reads_57 = true := by decide +kernel
theorem dX11_reads_21 : decode cX11_reads 21 = .ok (.invokevirtual 349, 3) := by decide +kernel
theorem dX11_reads_25 : decode cX11_reads 25 = .ok (.invokevirtual 212, 3) := by decide +kernel
theorem dX11_reads_32 : decode cX11_reads 32 = .ok (.invokevirtual 352, 3) := by decide +kernel
theorem dX11_reads_39 : decode cX11_reads 39 = .ok (.invokevirtual 355, 3) := by decide +kernel
theorem dX11_reads_54 : decode cX11_reads 54 = .ok (.invokevirtual 212, 3) := by decide +kernel
set_option maxRecDepth 100000 in
set_option maxHeartbeats 4000000 in
theorem ct_X11_reads (l : Launch) (G : kx_G) {M : Nat → Int32} {A : Nat → Nat → Int32} {L : Nat → Nat → Int64} {R : kx_P} {sz : Nat} {n c w : Nat} (hn : n ≤ 400) (h12 : M 12 = nI c) (h13 : M 13 = nI w)  : kx_M l G sX11_reads 43 0 0 [.ref 93, .int (nI n)] (mW M A L R) sz (some (.int (if (ck_rd M A n).1.2.1 = -1 then 1 else 0))) (mW (ck_rdM M n (ck_rd M A n)) (ck_rdA A (ck_rd M A n)) L R) sz := by
  have zW : ∀ X, mW X A L R = mW X (ck_pA (ck_qA A (A 96) (A 99)) (A 97) (A 98)) L R := fun X => by rw [ck_to_qA]
  have hn31 : n < 2 ^ 31 := by omega
  have h6 : (upd M 6 (nI n)) 6 = nI n := rfl
  have hRR : ck_rd M A n = ck_rds (A 95) n (n + 1) ((0, -1, M 9, M 11, 7, ck_rC (A 97), ck_rN (A 98)), 0, 0, 0, ck_t0 (A 96), A 99) := rfl
  refine kx_mk kx_tab kxLok_X11 (ini := false) [some (.ref 93), some (.int (nI n))] ⟨by decide, rfl, by decide, by decide⟩ ((ck_rd_b (ck_rd M A n).1.2.1).elim (fun z => Or.inl (by rw [z])) (fun z => Or.inr (by rw [z]))) rfl rfl (fun g hB hC => ?_)
  have j45 : ∀ Q : ck_Qt, ck_rd M A n = Q → g 45 [some (.ref 93), some (.int (nI n))] [] (ck_qW (upd M 6 (nI n)) A L R Q) sz 0 0 := by
    intro Q hE
    rw [hE] at hB
    obtain ⟨⟨a, b, k, o, c, C, N⟩, q, w, h, t, e⟩ := Q
    rw [ck_qW_t]
    refine hB bX11_reads_45 _ _ _ _ _ _ _ kX11_reads_45 ?_
    dsimp only [bX11_reads_45, kx_wp, kx_step, kx_lI, kx_lL, kx_lA, kx_gl, kx_pI, kx_pL, kx_pR, kx_pA, kx_pV, kx_s1, kx_s2, kx_sl, kx_pre, kx_c2, kx_pl, kx_cmp, kx_oF, kx_eqN, kx_nil, kx_c1, kx_ft, kx_aI, kx_aL, kx_aR, kx_ln, Nat.reduceAdd, Option.toList, List.cons_append, List.nil_append, mW_o, mf_6, mf_7, mf_8, mf_10, mf_14]
    repeat (simp only [mu_6, mW_so, mu_7, mu_8, mu_10, mu_14, ck_p8]; try dsimp only [kx_wp, kx_step, kx_lI, kx_lL, kx_lA, kx_gl, kx_pI, kx_pL, kx_pR, kx_pA, kx_pV, kx_s1, kx_s2, kx_sl, kx_pre, kx_c2, kx_pl, kx_cmp, kx_oF, kx_eqN, kx_nil, kx_c1, kx_ft, kx_aI, kx_aL, kx_aR, kx_ln, Nat.reduceAdd, Option.toList, List.cons_append, List.nil_append, mW_o, mf_6, mf_7, mf_8, mf_10, mf_14])
    repeat' apply And.intro
    all_goals try (first | with_reducible assumption | (with_reducible refine ck_nzI ?_; simp; done) | (with_reducible refine ck_nzL ?_; simp; done) | (with_reducible refine vp_in_nI ?_ ?_ <;> first | omega | decide) | (with_reducible refine Nat.le_of_ble_eq_true ?_; rfl) | omega)
    refine hC.1 212 _ _ _ _ _ _ _ 11 _ _ _ _ _ _ _ _ _ _ _ _ lX11_212 (ct_X11_fine l G) ⟨by decide, rfl⟩ (mW_o) rfl rfl (Nat.le_of_ble_eq_true rfl) (by omega) (by decide) (by omega) (by omega) dX11_reads_54 ?_
    refine hB bX11_reads_57 _ _ _ _ _ _ _ kX11_reads_57 ?_
    dsimp only [bX11_reads_57, kx_wp, kx_step, kx_lI, kx_lL, kx_lA, kx_gl, kx_pI, kx_pL, kx_pR, kx_pA, kx_pV, kx_s1, kx_s2, kx_sl, kx_pre, kx_c2, kx_pl, kx_cmp, kx_oF, kx_eqN, kx_nil, kx_c1, kx_ft, kx_aI, kx_aL, kx_aR, kx_ln, Nat.reduceAdd, Option.toList, List.cons_append, List.nil_append, mW_o, mf_6, mf_7, mf_8, mf_10, mf_14]
    repeat (simp only [mu_6, mW_so, mu_7, mu_8, mu_10, mu_14, ck_p8]; try dsimp only [kx_wp, kx_step, kx_lI, kx_lL, kx_lA, kx_gl, kx_pI, kx_pL, kx_pR, kx_pA, kx_pV, kx_s1, kx_s2, kx_sl, kx_pre, kx_c2, kx_pl, kx_cmp, kx_oF, kx_eqN, kx_nil, kx_c1, kx_ft, kx_aI, kx_aL, kx_aR, kx_ln, Nat.reduceAdd, Option.toList, List.cons_append, List.nil_append, mW_o, mf_6, mf_7, mf_8, mf_10, mf_14])
    all_goals (repeat' apply And.intro)
    all_goals ((try clear hC); first | exact True.intro | with_reducible rfl | rfl)
  have loop24 : ∀ (n9 : Nat) (Q : ck_Qt), (Q.1.2.1 = -1 → n - Q.1.1 < n9) → Q.1.1 ≤ n → Q.2.1 ≤ 16 → ck_rd M A n = ck_rds (A 95) n n9 Q → g 24 [some (.ref 93), some (.int (nI n))] [] (ck_qW (upd M 6 (nI n)) A L R Q) sz 0 0 := by
    intro n9
    induction n9 with
    | zero =>
      intro Q hf ha hq hE
      rw [ck_rds] at hE
      have hj := j45 Q hE
      have hb : ¬ Q.1.2.1 = -1 := fun e => by have := hf e; omega
      obtain ⟨⟨a, b, k, o, c, C, N⟩, q, w, h, t, e⟩ := Q
      dsimp only at hb ha hq
      rw [ck_qW_t] at hj ⊢
      refine hB bX11_reads_24 _ _ _ _ _ _ _ kX11_reads_24 ?_
      dsimp only [bX11_reads_24, kx_wp, kx_step, kx_lI, kx_lL, kx_lA, kx_gl, kx_pI, kx_pL, kx_pR, kx_pA, kx_pV, kx_s1, kx_s2, kx_sl, kx_pre, kx_c2, kx_pl, kx_cmp, kx_oF, kx_eqN, kx_nil, kx_c1, kx_ft, kx_aI, kx_aL, kx_aR, kx_ln, Nat.reduceAdd, Option.toList, List.cons_append, List.nil_append, mW_o, mf_6, mf_7, mf_8, mf_10, mf_14]
      repeat (simp only [mu_6, mW_so, mu_7, mu_8, mu_10, mu_14]; try dsimp only [kx_wp, kx_step, kx_lI, kx_lL, kx_lA, kx_gl, kx_pI, kx_pL, kx_pR, kx_pA, kx_pV, kx_s1, kx_s2, kx_sl, kx_pre, kx_c2, kx_pl, kx_cmp, kx_oF, kx_eqN, kx_nil, kx_c1, kx_ft, kx_aI, kx_aL, kx_aR, kx_ln, Nat.reduceAdd, Option.toList, List.cons_append, List.nil_append, mW_o, mf_6, mf_7, mf_8, mf_10, mf_14])
      repeat' apply And.intro
      all_goals try (first | with_reducible assumption | (with_reducible refine ck_nzI ?_; simp; done) | (with_reducible refine ck_nzL ?_; simp; done) | (with_reducible refine vp_in_nI ?_ ?_ <;> first | omega | decide) | (with_reducible refine Nat.le_of_ble_eq_true ?_; rfl) | omega)
      refine hC.1 212 _ _ _ _ _ _ _ 11 _ _ _ _ _ _ _ _ _ _ _ _ lX11_212 (ct_X11_fine l G) ⟨by decide, rfl⟩ (mW_o) rfl rfl (Nat.le_of_ble_eq_true rfl) (by omega) (by decide) (by omega) (by omega) dX11_reads_25 ?_
      rw [ck_p8, if_neg hb]
      refine hB bX11_reads_28 _ _ _ _ _ _ _ kX11_reads_28 ?_
      dsimp only [bX11_reads_28, kx_wp, kx_step, kx_lI, kx_lL, kx_lA, kx_gl, kx_pI, kx_pL, kx_pR, kx_pA, kx_pV, kx_s1, kx_s2, kx_sl, kx_pre, kx_c2, kx_pl, kx_cmp, kx_oF, kx_eqN, kx_nil, kx_c1, kx_ft, kx_aI, kx_aL, kx_aR, kx_ln, Nat.reduceAdd, Option.toList, List.cons_append, List.nil_append, mW_o, mf_6, mf_7, mf_8, mf_10, mf_14]
      repeat (simp only [mu_6, mW_so, mu_7, mu_8, mu_10, mu_14]; try dsimp only [kx_wp, kx_step, kx_lI, kx_lL, kx_lA, kx_gl, kx_pI, kx_pL, kx_pR, kx_pA, kx_pV, kx_s1, kx_s2, kx_sl, kx_pre, kx_c2, kx_pl, kx_cmp, kx_oF, kx_eqN, kx_nil, kx_c1, kx_ft, kx_aI, kx_aL, kx_aR, kx_ln, Nat.reduceAdd, Option.toList, List.cons_append, List.nil_append, mW_o, mf_6, mf_7, mf_8, mf_10, mf_14])
      repeat' apply And.intro
      all_goals try (first | with_reducible assumption | (with_reducible refine ck_nzI ?_; simp; done) | (with_reducible refine ck_nzL ?_; simp; done) | (with_reducible refine vp_in_nI ?_ ?_ <;> first | omega | decide) | (with_reducible refine Nat.le_of_ble_eq_true ?_; rfl) | omega)
      · intro zc28
        have ze28 := zc28
        all_goals exact hj
      · intro zc28
        first | exact absurd rfl zc28 | exact absurd zc28 (by decide) | exact absurd (by decide) zc28 | (exfalso; first | exact zc28 rfl | exact absurd zc28 (by decide) | exact zc35 rfl | exact absurd zc35 (by decide)) | (exfalso; simp_all; done)
    | succ n9 ih =>
      intro Q hf ha hq hE
      rw [ck_rds] at hE
      obtain ⟨⟨a, b, k, o, c, C, N⟩, q, w, h, t, e⟩ := Q
      dsimp only at hf ha hq hE
      by_cases hb : b = -1
      · subst hb
        rw [if_pos rfl] at hE
        have zsk := ck_sk_le (A 95) ha
        by_cases hm : ck_sk (A 95) n a < n
        · rw [if_pos hm] at hE
          have hg := ck_par_g (T := A 95) (n := n) hn31 (Q := ((ck_sk (A 95) n a, -1, k, o, c, C, N), q, w, h, t, e)) zsk.2 hq
          rw [ck_qW_t]
          refine hB bX11_reads_24 _ _ _ _ _ _ _ kX11_reads_24 ?_
          dsimp only [bX11_reads_24, kx_wp, kx_step, kx_lI, kx_lL, kx_lA, kx_gl, kx_pI, kx_pL, kx_pR, kx_pA, kx_pV, kx_s1, kx_s2, kx_sl, kx_pre, kx_c2, kx_pl, kx_cmp, kx_oF, kx_eqN, kx_nil, kx_c1, kx_ft, kx_aI, kx_aL, kx_aR, kx_ln, Nat.reduceAdd, Option.toList, List.cons_append, List.nil_append, mW_o, mf_6, mf_7, mf_8, mf_10, mf_14]
          repeat (simp only [mu_6, mW_so, mu_7, mu_8, mu_10, mu_14]; try dsimp only [kx_wp, kx_step, kx_lI, kx_lL, kx_lA, kx_gl, kx_pI, kx_pL, kx_pR, kx_pA, kx_pV, kx_s1, kx_s2, kx_sl, kx_pre, kx_c2, kx_pl, kx_cmp, kx_oF, kx_eqN, kx_nil, kx_c1, kx_ft, kx_aI, kx_aL, kx_aR, kx_ln, Nat.reduceAdd, Option.toList, List.cons_append, List.nil_append, mW_o, mf_6, mf_7, mf_8, mf_10, mf_14])
          repeat' apply And.intro
          all_goals try (first | with_reducible assumption | (with_reducible refine ck_nzI ?_; simp; done) | (with_reducible refine ck_nzL ?_; simp; done) | (with_reducible refine vp_in_nI ?_ ?_ <;> first | omega | decide) | (with_reducible refine Nat.le_of_ble_eq_true ?_; rfl) | omega)
          refine hC.1 212 _ _ _ _ _ _ _ 11 _ _ _ _ _ _ _ _ _ _ _ _ lX11_212 (ct_X11_fine l G) ⟨by decide, rfl⟩ (mW_o) rfl rfl (Nat.le_of_ble_eq_true rfl) (by omega) (by decide) (by omega) (by omega) dX11_reads_25 ?_
          rw [ck_p8, if_pos rfl]
          refine hB bX11_reads_28 _ _ _ _ _ _ _ kX11_reads_28 ?_
          dsimp only [bX11_reads_28, kx_wp, kx_step, kx_lI, kx_lL, kx_lA, kx_gl, kx_pI, kx_pL, kx_pR, kx_pA, kx_pV, kx_s1, kx_s2, kx_sl, kx_pre, kx_c2, kx_pl, kx_cmp, kx_oF, kx_eqN, kx_nil, kx_c1, kx_ft, kx_aI, kx_aL, kx_aR, kx_ln, Nat.reduceAdd, Option.toList, List.cons_append, List.nil_append, mW_o, mf_6, mf_7, mf_8, mf_10, mf_14]
          repeat (simp only [mu_6, mW_so, mu_7, mu_8, mu_10, mu_14]; try dsimp only [kx_wp, kx_step, kx_lI, kx_lL, kx_lA, kx_gl, kx_pI, kx_pL, kx_pR, kx_pA, kx_pV, kx_s1, kx_s2, kx_sl, kx_pre, kx_c2, kx_pl, kx_cmp, kx_oF, kx_eqN, kx_nil, kx_c1, kx_ft, kx_aI, kx_aL, kx_aR, kx_ln, Nat.reduceAdd, Option.toList, List.cons_append, List.nil_append, mW_o, mf_6, mf_7, mf_8, mf_10, mf_14])
          repeat' apply And.intro
          all_goals try (first | with_reducible assumption | (with_reducible refine ck_nzI ?_; simp; done) | (with_reducible refine ck_nzL ?_; simp; done) | (with_reducible refine vp_in_nI ?_ ?_ <;> first | omega | decide) | (with_reducible refine Nat.le_of_ble_eq_true ?_; rfl) | omega)
          · intro zc28
            first | exact absurd rfl zc28 | exact absurd zc28 (by decide) | exact absurd (by decide) zc28 | (exfalso; first | exact zc28 rfl | exact absurd zc28 (by decide) | exact zc35 rfl | exact absurd zc35 (by decide)) | (exfalso; simp_all; done)
          · intro zc28
            have ze28 := zc28
            refine hB bX11_reads_31 _ _ _ _ _ _ _ kX11_reads_31 ?_
            dsimp only [bX11_reads_31, kx_wp, kx_step, kx_lI, kx_lL, kx_lA, kx_gl, kx_pI, kx_pL, kx_pR, kx_pA, kx_pV, kx_s1, kx_s2, kx_sl, kx_pre, kx_c2, kx_pl, kx_cmp, kx_oF, kx_eqN, kx_nil, kx_c1, kx_ft, kx_aI, kx_aL, kx_aR, kx_ln, Nat.reduceAdd, Option.toList, List.cons_append, List.nil_append, mW_o, mf_6, mf_7, mf_8, mf_10, mf_14]
            repeat (simp only [mu_6, mW_so, mu_7, mu_8, mu_10, mu_14]; try dsimp only [kx_wp, kx_step, kx_lI, kx_lL, kx_lA, kx_gl, kx_pI, kx_pL, kx_pR, kx_pA, kx_pV, kx_s1, kx_s2, kx_sl, kx_pre, kx_c2, kx_pl, kx_cmp, kx_oF, kx_eqN, kx_nil, kx_c1, kx_ft, kx_aI, kx_aL, kx_aR, kx_ln, Nat.reduceAdd, Option.toList, List.cons_append, List.nil_append, mW_o, mf_6, mf_7, mf_8, mf_10, mf_14])
            repeat' apply And.intro
            all_goals try (first | with_reducible assumption | (with_reducible refine ck_nzI ?_; simp; done) | (with_reducible refine ck_nzL ?_; simp; done) | (with_reducible refine vp_in_nI ?_ ?_ <;> first | omega | decide) | (with_reducible refine Nat.le_of_ble_eq_true ?_; rfl) | omega)
            refine hC.1 352 _ _ _ _ _ _ _ 11 _ _ _ _ _ _ _ _ _ _ _ _ lX11_352 (ct_X11_isMore l G (M := (upd M 6 (nI n))) (A := A) (t := t) (e := e) h6 hn ha) ⟨by decide, rfl⟩ (mW_o) rfl rfl (Nat.le_of_ble_eq_true rfl) (by omega) (by decide) (by omega) (by omega) dX11_reads_32 ?_
            rw [if_pos hm]
            refine hB bX11_reads_35 _ _ _ _ _ _ _ kX11_reads_35 ?_
            dsimp only [bX11_reads_35, kx_wp, kx_step, kx_lI, kx_lL, kx_lA, kx_gl, kx_pI, kx_pL, kx_pR, kx_pA, kx_pV, kx_s1, kx_s2, kx_sl, kx_pre, kx_c2, kx_pl, kx_cmp, kx_oF, kx_eqN, kx_nil, kx_c1, kx_ft, kx_aI, kx_aL, kx_aR, kx_ln, Nat.reduceAdd, Option.toList, List.cons_append, List.nil_append, mW_o, mf_6, mf_7, mf_8, mf_10, mf_14]
            repeat (simp only [mu_6, mW_so, mu_7, mu_8, mu_10, mu_14]; try dsimp only [kx_wp, kx_step, kx_lI, kx_lL, kx_lA, kx_gl, kx_pI, kx_pL, kx_pR, kx_pA, kx_pV, kx_s1, kx_s2, kx_sl, kx_pre, kx_c2, kx_pl, kx_cmp, kx_oF, kx_eqN, kx_nil, kx_c1, kx_ft, kx_aI, kx_aL, kx_aR, kx_ln, Nat.reduceAdd, Option.toList, List.cons_append, List.nil_append, mW_o, mf_6, mf_7, mf_8, mf_10, mf_14])
            repeat' apply And.intro
            all_goals try (first | with_reducible assumption | (with_reducible refine ck_nzI ?_; simp; done) | (with_reducible refine ck_nzL ?_; simp; done) | (with_reducible refine vp_in_nI ?_ ?_ <;> first | omega | decide) | (with_reducible refine Nat.le_of_ble_eq_true ?_; rfl) | omega)
            · intro zc35
              first | exact absurd rfl zc35 | exact absurd zc35 (by decide) | exact absurd (by decide) zc35 | (exfalso; first | exact zc28 rfl | exact absurd zc28 (by decide) | exact zc35 rfl | exact absurd zc35 (by decide)) | (exfalso; simp_all; done)
            · intro zc35
              have ze35 := zc35
              refine hB bX11_reads_38 _ _ _ _ _ _ _ kX11_reads_38 ?_
              dsimp only [bX11_reads_38, kx_wp, kx_step, kx_lI, kx_lL, kx_lA, kx_gl, kx_pI, kx_pL, kx_pR, kx_pA, kx_pV, kx_s1, kx_s2, kx_sl, kx_pre, kx_c2, kx_pl, kx_cmp, kx_oF, kx_eqN, kx_nil, kx_c1, kx_ft, kx_aI, kx_aL, kx_aR, kx_ln, Nat.reduceAdd, Option.toList, List.cons_append, List.nil_append, mW_o, mf_6, mf_7, mf_8, mf_10, mf_14]
              repeat (simp only [mu_6, mW_so, mu_7, mu_8, mu_10, mu_14]; try dsimp only [kx_wp, kx_step, kx_lI, kx_lL, kx_lA, kx_gl, kx_pI, kx_pL, kx_pR, kx_pA, kx_pV, kx_s1, kx_s2, kx_sl, kx_pre, kx_c2, kx_pl, kx_cmp, kx_oF, kx_eqN, kx_nil, kx_c1, kx_ft, kx_aI, kx_aL, kx_aR, kx_ln, Nat.reduceAdd, Option.toList, List.cons_append, List.nil_append, mW_o, mf_6, mf_7, mf_8, mf_10, mf_14])
              repeat' apply And.intro
              all_goals try (first | with_reducible assumption | (with_reducible refine ck_nzI ?_; simp; done) | (with_reducible refine ck_nzL ?_; simp; done) | (with_reducible refine vp_in_nI ?_ ?_ <;> first | omega | decide) | (with_reducible refine Nat.le_of_ble_eq_true ?_; rfl) | omega)
              refine hC.1 355 _ _ _ _ _ _ _ 11 _ _ _ _ _ _ _ _ _ _ _ _ lX11_355 (ct_X11_readPart l G (M := (upd M 6 (nI n))) (A := A) (t := t) (e := e) h6 hn zsk.2 hq) ⟨by decide, rfl⟩ (mW_o) rfl rfl (Nat.le_of_ble_eq_true rfl) (by omega) (by decide) (by omega) (by omega) dX11_reads_39 ?_
              refine hB bX11_reads_42 _ _ _ _ _ _ _ kX11_reads_42 ?_
              dsimp only [bX11_reads_42, kx_wp, kx_step, kx_lI, kx_lL, kx_lA, kx_gl, kx_pI, kx_pL, kx_pR, kx_pA, kx_pV, kx_s1, kx_s2, kx_sl, kx_pre, kx_c2, kx_pl, kx_cmp, kx_oF, kx_eqN, kx_nil, kx_c1, kx_ft, kx_aI, kx_aL, kx_aR, kx_ln, Nat.reduceAdd, Option.toList, List.cons_append, List.nil_append, mW_o, mf_6, mf_7, mf_8, mf_10, mf_14]
              repeat (simp only [mu_6, mW_so, mu_7, mu_8, mu_10, mu_14]; try dsimp only [kx_wp, kx_step, kx_lI, kx_lL, kx_lA, kx_gl, kx_pI, kx_pL, kx_pR, kx_pA, kx_pV, kx_s1, kx_s2, kx_sl, kx_pre, kx_c2, kx_pl, kx_cmp, kx_oF, kx_eqN, kx_nil, kx_c1, kx_ft, kx_aI, kx_aL, kx_aR, kx_ln, Nat.reduceAdd, Option.toList, List.cons_append, List.nil_append, mW_o, mf_6, mf_7, mf_8, mf_10, mf_14])
              repeat' apply And.intro
              all_goals try (first | with_reducible assumption | (with_reducible refine ck_nzI ?_; simp; done) | (with_reducible refine ck_nzL ?_; simp; done) | (with_reducible refine vp_in_nI ?_ ?_ <;> first | omega | decide) | (with_reducible refine Nat.le_of_ble_eq_true ?_; rfl) | omega)
              all_goals exact ih _ (fun e => by have h1 := hf rfl; have h2 := hg.2.1 e; have h3 := hg.1; dsimp only at h2; omega) hg.1 hg.2.2 hE
        · rw [if_neg hm] at hE
          have hj := j45 _ hE
          rw [ck_qW_t] at hj ⊢
          refine hB bX11_reads_24 _ _ _ _ _ _ _ kX11_reads_24 ?_
          dsimp only [bX11_reads_24, kx_wp, kx_step, kx_lI, kx_lL, kx_lA, kx_gl, kx_pI, kx_pL, kx_pR, kx_pA, kx_pV, kx_s1, kx_s2, kx_sl, kx_pre, kx_c2, kx_pl, kx_cmp, kx_oF, kx_eqN, kx_nil, kx_c1, kx_ft, kx_aI, kx_aL, kx_aR, kx_ln, Nat.reduceAdd, Option.toList, List.cons_append, List.nil_append, mW_o, mf_6, mf_7, mf_8, mf_10, mf_14]
          repeat (simp only [mu_6, mW_so, mu_7, mu_8, mu_10, mu_14]; try dsimp only [kx_wp, kx_step, kx_lI, kx_lL, kx_lA, kx_gl, kx_pI, kx_pL, kx_pR, kx_pA, kx_pV, kx_s1, kx_s2, kx_sl, kx_pre, kx_c2, kx_pl, kx_cmp, kx_oF, kx_eqN, kx_nil, kx_c1, kx_ft, kx_aI, kx_aL, kx_aR, kx_ln, Nat.reduceAdd, Option.toList, List.cons_append, List.nil_append, mW_o, mf_6, mf_7, mf_8, mf_10, mf_14])
          repeat' apply And.intro
          all_goals try (first | with_reducible assumption | (with_reducible refine ck_nzI ?_; simp; done) | (with_reducible refine ck_nzL ?_; simp; done) | (with_reducible refine vp_in_nI ?_ ?_ <;> first | omega | decide) | (with_reducible refine Nat.le_of_ble_eq_true ?_; rfl) | omega)
          refine hC.1 212 _ _ _ _ _ _ _ 11 _ _ _ _ _ _ _ _ _ _ _ _ lX11_212 (ct_X11_fine l G) ⟨by decide, rfl⟩ (mW_o) rfl rfl (Nat.le_of_ble_eq_true rfl) (by omega) (by decide) (by omega) (by omega) dX11_reads_25 ?_
          rw [ck_p8, if_pos rfl]
          refine hB bX11_reads_28 _ _ _ _ _ _ _ kX11_reads_28 ?_
          dsimp only [bX11_reads_28, kx_wp, kx_step, kx_lI, kx_lL, kx_lA, kx_gl, kx_pI, kx_pL, kx_pR, kx_pA, kx_pV, kx_s1, kx_s2, kx_sl, kx_pre, kx_c2, kx_pl, kx_cmp, kx_oF, kx_eqN, kx_nil, kx_c1, kx_ft, kx_aI, kx_aL, kx_aR, kx_ln, Nat.reduceAdd, Option.toList, List.cons_append, List.nil_append, mW_o, mf_6, mf_7, mf_8, mf_10, mf_14]
          repeat (simp only [mu_6, mW_so, mu_7, mu_8, mu_10, mu_14]; try dsimp only [kx_wp, kx_step, kx_lI, kx_lL, kx_lA, kx_gl, kx_pI, kx_pL, kx_pR, kx_pA, kx_pV, kx_s1, kx_s2, kx_sl, kx_pre, kx_c2, kx_pl, kx_cmp, kx_oF, kx_eqN, kx_nil, kx_c1, kx_ft, kx_aI, kx_aL, kx_aR, kx_ln, Nat.reduceAdd, Option.toList, List.cons_append, List.nil_append, mW_o, mf_6, mf_7, mf_8, mf_10, mf_14])
          repeat' apply And.intro
          all_goals try (first | with_reducible assumption | (with_reducible refine ck_nzI ?_; simp; done) | (with_reducible refine ck_nzL ?_; simp; done) | (with_reducible refine vp_in_nI ?_ ?_ <;> first | omega | decide) | (with_reducible refine Nat.le_of_ble_eq_true ?_; rfl) | omega)
          · intro zc28
            first | exact absurd rfl zc28 | exact absurd zc28 (by decide) | exact absurd (by decide) zc28 | (exfalso; first | exact zc28 rfl | exact absurd zc28 (by decide) | exact zc35 rfl | exact absurd zc35 (by decide)) | (exfalso; simp_all; done)
          · intro zc28
            have ze28 := zc28
            refine hB bX11_reads_31 _ _ _ _ _ _ _ kX11_reads_31 ?_
            dsimp only [bX11_reads_31, kx_wp, kx_step, kx_lI, kx_lL, kx_lA, kx_gl, kx_pI, kx_pL, kx_pR, kx_pA, kx_pV, kx_s1, kx_s2, kx_sl, kx_pre, kx_c2, kx_pl, kx_cmp, kx_oF, kx_eqN, kx_nil, kx_c1, kx_ft, kx_aI, kx_aL, kx_aR, kx_ln, Nat.reduceAdd, Option.toList, List.cons_append, List.nil_append, mW_o, mf_6, mf_7, mf_8, mf_10, mf_14]
            repeat (simp only [mu_6, mW_so, mu_7, mu_8, mu_10, mu_14]; try dsimp only [kx_wp, kx_step, kx_lI, kx_lL, kx_lA, kx_gl, kx_pI, kx_pL, kx_pR, kx_pA, kx_pV, kx_s1, kx_s2, kx_sl, kx_pre, kx_c2, kx_pl, kx_cmp, kx_oF, kx_eqN, kx_nil, kx_c1, kx_ft, kx_aI, kx_aL, kx_aR, kx_ln, Nat.reduceAdd, Option.toList, List.cons_append, List.nil_append, mW_o, mf_6, mf_7, mf_8, mf_10, mf_14])
            repeat' apply And.intro
            all_goals try (first | with_reducible assumption | (with_reducible refine ck_nzI ?_; simp; done) | (with_reducible refine ck_nzL ?_; simp; done) | (with_reducible refine vp_in_nI ?_ ?_ <;> first | omega | decide) | (with_reducible refine Nat.le_of_ble_eq_true ?_; rfl) | omega)
            refine hC.1 352 _ _ _ _ _ _ _ 11 _ _ _ _ _ _ _ _ _ _ _ _ lX11_352 (ct_X11_isMore l G (M := (upd M 6 (nI n))) (A := A) (t := t) (e := e) h6 hn ha) ⟨by decide, rfl⟩ (mW_o) rfl rfl (Nat.le_of_ble_eq_true rfl) (by omega) (by decide) (by omega) (by omega) dX11_reads_32 ?_
            rw [if_neg hm]
            refine hB bX11_reads_35 _ _ _ _ _ _ _ kX11_reads_35 ?_
            dsimp only [bX11_reads_35, kx_wp, kx_step, kx_lI, kx_lL, kx_lA, kx_gl, kx_pI, kx_pL, kx_pR, kx_pA, kx_pV, kx_s1, kx_s2, kx_sl, kx_pre, kx_c2, kx_pl, kx_cmp, kx_oF, kx_eqN, kx_nil, kx_c1, kx_ft, kx_aI, kx_aL, kx_aR, kx_ln, Nat.reduceAdd, Option.toList, List.cons_append, List.nil_append, mW_o, mf_6, mf_7, mf_8, mf_10, mf_14]
            repeat (simp only [mu_6, mW_so, mu_7, mu_8, mu_10, mu_14]; try dsimp only [kx_wp, kx_step, kx_lI, kx_lL, kx_lA, kx_gl, kx_pI, kx_pL, kx_pR, kx_pA, kx_pV, kx_s1, kx_s2, kx_sl, kx_pre, kx_c2, kx_pl, kx_cmp, kx_oF, kx_eqN, kx_nil, kx_c1, kx_ft, kx_aI, kx_aL, kx_aR, kx_ln, Nat.reduceAdd, Option.toList, List.cons_append, List.nil_append, mW_o, mf_6, mf_7, mf_8, mf_10, mf_14])
            repeat' apply And.intro
            all_goals try (first | with_reducible assumption | (with_reducible refine ck_nzI ?_; simp; done) | (with_reducible refine ck_nzL ?_; simp; done) | (with_reducible refine vp_in_nI ?_ ?_ <;> first | omega | decide) | (with_reducible refine Nat.le_of_ble_eq_true ?_; rfl) | omega)
            · intro zc35
              have ze35 := zc35
              all_goals exact hj
            · intro zc35
              first | exact absurd rfl zc35 | exact absurd zc35 (by decide) | exact absurd (by decide) zc35 | (exfalso; first | exact zc28 rfl | exact absurd zc28 (by decide) | exact zc35 rfl | exact absurd zc35 (by decide)) | (exfalso; simp_all; done)
      · rw [if_neg hb] at hE
        have hj := j45 _ hE
        rw [ck_qW_t] at hj ⊢
        refine hB bX11_reads_24 _ _ _ _ _ _ _ kX11_reads_24 ?_
        dsimp only [bX11_reads_24, kx_wp, kx_step, kx_lI, kx_lL, kx_lA, kx_gl, kx_pI, kx_pL, kx_pR, kx_pA, kx_pV, kx_s1, kx_s2, kx_sl, kx_pre, kx_c2, kx_pl, kx_cmp, kx_oF, kx_eqN, kx_nil, kx_c1, kx_ft, kx_aI, kx_aL, kx_aR, kx_ln, Nat.reduceAdd, Option.toList, List.cons_append, List.nil_append, mW_o, mf_6, mf_7, mf_8, mf_10, mf_14]
        repeat (simp only [mu_6, mW_so, mu_7, mu_8, mu_10, mu_14]; try dsimp only [kx_wp, kx_step, kx_lI, kx_lL, kx_lA, kx_gl, kx_pI, kx_pL, kx_pR, kx_pA, kx_pV, kx_s1, kx_s2, kx_sl, kx_pre, kx_c2, kx_pl, kx_cmp, kx_oF, kx_eqN, kx_nil, kx_c1, kx_ft, kx_aI, kx_aL, kx_aR, kx_ln, Nat.reduceAdd, Option.toList, List.cons_append, List.nil_append, mW_o, mf_6, mf_7, mf_8, mf_10, mf_14])
        repeat' apply And.intro
        all_goals try (first | with_reducible assumption | (with_reducible refine ck_nzI ?_; simp; done) | (with_reducible refine ck_nzL ?_; simp; done) | (with_reducible refine vp_in_nI ?_ ?_ <;> first | omega | decide) | (with_reducible refine Nat.le_of_ble_eq_true ?_; rfl) | omega)
        refine hC.1 212 _ _ _ _ _ _ _ 11 _ _ _ _ _ _ _ _ _ _ _ _ lX11_212 (ct_X11_fine l G) ⟨by decide, rfl⟩ (mW_o) rfl rfl (Nat.le_of_ble_eq_true rfl) (by omega) (by decide) (by omega) (by omega) dX11_reads_25 ?_
        rw [ck_p8, if_neg hb]
        refine hB bX11_reads_28 _ _ _ _ _ _ _ kX11_reads_28 ?_
        dsimp only [bX11_reads_28, kx_wp, kx_step, kx_lI, kx_lL, kx_lA, kx_gl, kx_pI, kx_pL, kx_pR, kx_pA, kx_pV, kx_s1, kx_s2, kx_sl, kx_pre, kx_c2, kx_pl, kx_cmp, kx_oF, kx_eqN, kx_nil, kx_c1, kx_ft, kx_aI, kx_aL, kx_aR, kx_ln, Nat.reduceAdd, Option.toList, List.cons_append, List.nil_append, mW_o, mf_6, mf_7, mf_8, mf_10, mf_14]
        repeat (simp only [mu_6, mW_so, mu_7, mu_8, mu_10, mu_14]; try dsimp only [kx_wp, kx_step, kx_lI, kx_lL, kx_lA, kx_gl, kx_pI, kx_pL, kx_pR, kx_pA, kx_pV, kx_s1, kx_s2, kx_sl, kx_pre, kx_c2, kx_pl, kx_cmp, kx_oF, kx_eqN, kx_nil, kx_c1, kx_ft, kx_aI, kx_aL, kx_aR, kx_ln, Nat.reduceAdd, Option.toList, List.cons_append, List.nil_append, mW_o, mf_6, mf_7, mf_8, mf_10, mf_14])
        repeat' apply And.intro
        all_goals try (first | with_reducible assumption | (with_reducible refine ck_nzI ?_; simp; done) | (with_reducible refine ck_nzL ?_; simp; done) | (with_reducible refine vp_in_nI ?_ ?_ <;> first | omega | decide) | (with_reducible refine Nat.le_of_ble_eq_true ?_; rfl) | omega)
        · intro zc28
          have ze28 := zc28
          all_goals exact hj
        · intro zc28
          first | exact absurd rfl zc28 | exact absurd zc28 (by decide) | exact absurd (by decide) zc28 | (exfalso; first | exact zc28 rfl | exact absurd zc28 (by decide) | exact zc35 rfl | exact absurd zc35 (by decide)) | (exfalso; simp_all; done)
  refine hB bX11_reads_0 _ _ _ _ _ _ _ kX11_reads_0 ?_
  dsimp only [bX11_reads_0, kx_wp, kx_step, kx_lI, kx_lL, kx_lA, kx_gl, kx_pI, kx_pL, kx_pR, kx_pA, kx_pV, kx_s1, kx_s2, kx_sl, kx_pre, kx_c2, kx_pl, kx_cmp, kx_oF, kx_eqN, kx_nil, kx_c1, kx_ft, kx_aI, kx_aL, kx_aR, kx_ln, Nat.reduceAdd, Option.toList, List.cons_append, List.nil_append, mW_o, mf_6, mf_7, mf_8, mf_10, mf_14]
  repeat (simp only [mu_6, mW_so, mu_7, mu_8, mu_10, mu_14]; try dsimp only [kx_wp, kx_step, kx_lI, kx_lL, kx_lA, kx_gl, kx_pI, kx_pL, kx_pR, kx_pA, kx_pV, kx_s1, kx_s2, kx_sl, kx_pre, kx_c2, kx_pl, kx_cmp, kx_oF, kx_eqN, kx_nil, kx_c1, kx_ft, kx_aI, kx_aL, kx_aR, kx_ln, Nat.reduceAdd, Option.toList, List.cons_append, List.nil_append, mW_o, mf_6, mf_7, mf_8, mf_10, mf_14])
  repeat' apply And.intro
  all_goals try (first | with_reducible assumption | (with_reducible refine ck_nzI ?_; simp; done) | (with_reducible refine ck_nzL ?_; simp; done) | (with_reducible refine vp_in_nI ?_ ?_ <;> first | omega | decide) | (with_reducible refine Nat.le_of_ble_eq_true ?_; rfl) | omega)
  rw [zW, ck_to_qM M h12 h13]
  refine hC.1 349 _ _ _ _ _ _ _ 11 _ _ _ _ _ _ _ _ _ _ _ _ lX11_349 (ct_X11_plain l G (M := (upd M 6 (nI n))) (A := A) (n := n) h6 hn (a := 0) (Nat.zero_le n)) ⟨by decide, rfl⟩ (mW_o) rfl rfl (Nat.le_of_ble_eq_true rfl) (by omega) (by decide) (by omega) (by omega) dX11_reads_21 ?_
  all_goals exact loop24 (n + 1) ((0, -1, M 9, M 11, 7, ck_rC (A 97), ck_rN (A 98)), 0, 0, 0, ck_t0 (A 96), A 99) (fun _ => by show n - 0 < n + 1; omega) (Nat.zero_le n) (by show 0 ≤ 16; decide) hRR


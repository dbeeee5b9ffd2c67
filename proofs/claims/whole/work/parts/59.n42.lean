/-! a part of the text: besides the reader, how many parts (p), the wheel (w teeth in e; h), what is told (t) -/
def ck_qM (M : Nat → Int32) (p w : Nat) (h : Int32) : Nat → Int32 := fun j => if j = 10 then nI p else if j = 13 then nI w else if j = 15 then h else M j
def ck_qA (A : Nat → Nat → Int32) (t e : Nat → Int32) : Nat → Nat → Int32 := fun i => if i = 96 then t else if i = 99 then e else A i
theorem ck_q6 (M p w h) : ck_qM M p w h 6 = M 6 := rfl
theorem ck_q10 (M p w h) : ck_qM M p w h 10 = nI p := rfl
theorem ck_q13 (M p w h) : ck_qM M p w h 13 = nI w := rfl
theorem ck_q15 (M p w h) : ck_qM M p w h 15 = h := rfl
theorem ck_qa95 (A t e) : ck_qA A t e 95 = A 95 := rfl
theorem ck_qa96 (A t e) : ck_qA A t e 96 = t := rfl
theorem ck_qa99 (A t e) : ck_qA A t e 99 = e := rfl
theorem ck_qu10 (M p w h) (x : Nat) : upd (ck_qM M p w h) 10 (nI x) = ck_qM M x w h := by
  funext j; unfold upd ck_qM; by_cases q : j = 10
  · subst q; rfl
  · simp only [if_neg q]
theorem ck_qu13 (M p w h) (x : Nat) : upd (ck_qM M p w h) 13 (nI x) = ck_qM M p x h := by
  funext j; unfold upd ck_qM; by_cases q : j = 13
  · subst q; rfl
  · simp only [if_neg q]
theorem ck_qu15 (M p w h) (x : Int32) : upd (ck_qM M p w h) 15 x = ck_qM M p w x := by
  funext j; unfold upd ck_qM; by_cases q : j = 15
  · subst q; rfl
  · simp only [if_neg q]
theorem ck_qu13z (M p w h) : upd (ck_qM M p w h) 13 0 = ck_qM M p 0 h := ck_qu13 M p w h 0
theorem ck_qu10z (M p w h) : upd (ck_qM M p w h) 10 0 = ck_qM M 0 w h := ck_qu10 M p w h 0
theorem ck_pu12z (M a b k o c) : upd (ck_pM M a b k o c) 12 0 = ck_pM M a b k o 0 := ck_pu12 M a b k o c 0
theorem ck_pu7z (M a b k o c) : upd (ck_pM M a b k o c) 7 0 = ck_pM M 0 b k o c := ck_pu7 M a b k o c 0
theorem ck_qau96 (A t e x) : va_up (ck_qA A t e) 96 x = ck_qA A x e := by
  funext i; unfold va_up ck_qA; by_cases q : i = 96
  · subst q; rfl
  · simp only [if_neg q]
theorem ck_qau99 (A t e x) : va_up (ck_qA A t e) 99 x = ck_qA A t x := by
  funext i; unfold va_up ck_qA; by_cases q : i = 99
  · subst q; rfl
  · simp only [if_neg q]
abbrev ck_Qt : Type := ck_R × Nat × Nat × Int32 × (Nat → Int32) × (Nat → Int32)
def ck_qW (M : Nat → Int32) (A : Nat → Nat → Int32) (L : Nat → Nat → Int64) (R : kx_P) (Q : ck_Qt) : kx_P := ck_pW (ck_qM M Q.2.1 Q.2.2.1 Q.2.2.2.1) (ck_qA A Q.2.2.2.2.1 Q.2.2.2.2.2) L R Q.1
theorem ck_qW_t (M A L R) (a : Nat) (b k o : Int32) (c : Nat) (C N : Nat → Int32) (p w : Nat) (h : Int32) (t e : Nat → Int32) : ck_qW M A L R ((a, b, k, o, c, C, N), p, w, h, t, e) = mW (ck_pM (ck_qM M p w h) a b k o c) (ck_pA (ck_qA A t e) C N) L R := rfl
def ck_isP (w : Int64) : Int32 := if w = 19118 then 1 else if w = 67173 then 1 else if w = 755277 then 1 else if w = 758834 then 1 else if w = 546188 then 1 else if w = 16955865 then 1 else if w = 659105125 then 1 else if w = 21091560627 then 1 else if w = 606717220435 then 1 else if w = 647370196 then 1 else if w = 104561315890 then 1 else if w = 19039336 then 1 else 0

def bX11_isPart_0 : List kx_O := [(.lload_n 0, 0, 0, 0, .null), (.ldc2_w 294, 0, 0, 0, .long (19118)), (.lcmp, 0, 0, 0, .null), (.ifCond .eq 51, 56, 0, 0, .null)]
theorem kX11_isPart_0 : kx_oks kxL_X11 false cX11_isPart 0 bX11_isPart_0 = true := by decide +kernel
def bX11_isPart_8 : List kx_O := [(.lload_n 0, 0, 0, 0, .null), (.ldc2_w 296, 0, 0, 0, .long (67173)), (.lcmp, 0, 0, 0, .null), (.ifCond .eq 43, 56, 0, 0, .null)]
theorem kX11_isPart_8 : kx_oks kxL_X11 false cX11_isPart 8 bX11_isPart_8 = true := by decide +kernel
def bX11_isPart_16 : List kx_O := [(.lload_n 0, 0, 0, 0, .null), (.ldc2_w 298, 0, 0, 0, .long (755277)), (.lcmp, 0, 0, 0, .null), (.ifCond .eq 35, 56, 0, 0, .null)]
theorem kX11_isPart_16 : kx_oks kxL_X11 false cX11_isPart 16 bX11_isPart_16 = true := by decide +kernel
def bX11_isPart_24 : List kx_O := [(.lload_n 0, 0, 0, 0, .null), (.ldc2_w 300, 0, 0, 0, .long (758834)), (.lcmp, 0, 0, 0, .null), (.ifCond .eq 27, 56, 0, 0, .null)]
theorem kX11_isPart_24 : kx_oks kxL_X11 false cX11_isPart 24 bX11_isPart_24 = true := by decide +kernel
def bX11_isPart_32 : List kx_O := [(.lload_n 0, 0, 0, 0, .null), (.ldc2_w 302, 0, 0, 0, .long (546188)), (.lcmp, 0, 0, 0, .null), (.ifCond .eq 19, 56, 0, 0, .null)]
theorem kX11_isPart_32 : kx_oks kxL_X11 false cX11_isPart 32 bX11_isPart_32 = true := by decide +kernel
def bX11_isPart_40 : List kx_O := [(.lload_n 0, 0, 0, 0, .null), (.ldc2_w 304, 0, 0, 0, .long (16955865)), (.lcmp, 0, 0, 0, .null), (.ifCond .eq 11, 56, 0, 0, .null)]
theorem kX11_isPart_40 : kx_oks kxL_X11 false cX11_isPart 40 bX11_isPart_40 = true := by decide +kernel
def bX11_isPart_48 : List kx_O := [(.lload_n 0, 0, 0, 0, .null), (.ldc2_w 306, 0, 0, 0, .long (659105125)), (.lcmp, 0, 0, 0, .null), (.ifCond .ne 7, 60, 0, 0, .null)]
theorem kX11_isPart_48 : kx_oks kxL_X11 false cX11_isPart 48 bX11_isPart_48 = true := by decide +kernel
def bX11_isPart_56 : List kx_O := [(.iconst 1, 0, 0, 0, .int 1), (.goto 4, 61, 0, 0, .null)]
theorem kX11_isPart_56 : kx_oks kxL_X11 false cX11_isPart 56 bX11_isPart_56 = true := by decide +kernel
def bX11_isPart_60 : List kx_O := [(.iconst 0, 0, 0, 0, .int 0)]
theorem kX11_isPart_60 : kx_oks kxL_X11 false cX11_isPart 60 bX11_isPart_60 = true := by decide +kernel
def bX11_isPart_61 : List kx_O := [(.istore_n 2, 2, 0, 0, .null), (.iload_n 2, 2, 0, 0, .null), (.ifCond .ne 43, 106, 0, 0, .null)]
theorem kX11_isPart_61 : kx_oks kxL_X11 false cX11_isPart 61 bX11_isPart_61 = true := by decide +kernel
def bX11_isPart_66 : List kx_O := [(.lload_n 0, 0, 0, 0, .null), (.ldc2_w 308, 0, 0, 0, .long (21091560627)), (.lcmp, 0, 0, 0, .null), (.ifCond .eq 35, 106, 0, 0, .null)]
theorem kX11_isPart_66 : kx_oks kxL_X11 false cX11_isPart 66 bX11_isPart_66 = true := by decide +kernel
def bX11_isPart_74 : List kx_O := [(.lload_n 0, 0, 0, 0, .null), (.ldc2_w 310, 0, 0, 0, .long (606717220435)), (.lcmp, 0, 0, 0, .null), (.ifCond .eq 27, 106, 0, 0, .null)]
theorem kX11_isPart_74 : kx_oks kxL_X11 false cX11_isPart 74 bX11_isPart_74 = true := by decide +kernel
def bX11_isPart_82 : List kx_O := [(.lload_n 0, 0, 0, 0, .null), (.ldc2_w 312, 0, 0, 0, .long (647370196)), (.lcmp, 0, 0, 0, .null), (.ifCond .eq 19, 106, 0, 0, .null)]
theorem kX11_isPart_82 : kx_oks kxL_X11 false cX11_isPart 82 bX11_isPart_82 = true := by decide +kernel
def bX11_isPart_90 : List kx_O := [(.lload_n 0, 0, 0, 0, .null), (.ldc2_w 314, 0, 0, 0, .long (104561315890)), (.lcmp, 0, 0, 0, .null), (.ifCond .eq 11, 106, 0, 0, .null)]
theorem kX11_isPart_90 : kx_oks kxL_X11 false cX11_isPart 90 bX11_isPart_90 = true := by decide +kernel
def bX11_isPart_98 : List kx_O := [(.lload_n 0, 0, 0, 0, .null), (.ldc2_w 316, 0, 0, 0, .long (19039336)), (.lcmp, 0, 0, 0, .null), (.ifCond .ne 7, 110, 0, 0, .null)]
theorem kX11_isPart_98 : kx_oks kxL_X11 false cX11_isPart 98 bX11_isPart_98 = true := by decide +kernel
def bX11_isPart_106 : List kx_O := [(.iconst 1, 0, 0, 0, .int 1), (.goto 4, 111, 0, 0, .null)]
theorem kX11_isPart_106 : kx_oks kxL_X11 false cX11_isPart 106 bX11_isPart_106 = true := by decide +kernel
def bX11_isPart_110 : List kx_O := [(.iconst 0, 0, 0, 0, .int 0)]
theorem kX11_isPart_110 : kx_oks kxL_X11 false cX11_isPart 110 bX11_isPart_110 = true := by decide +kernel
def bX11_isPart_111 : List kx_O := [(.ireturn, 0, 0, 0, .null)]
theorem kX11_isPart_111 : kx_oks kxL_X11 false cX11_isPart 111 bX11_isPart_111 = true := by decide +kernel
set_option maxRecDepth 100000 in
set_option maxHeartbeats 4000000 in
theorem ct_X11_isPart (l : Launch) (G : kx_G) {M : Nat → Int32} {A : Nat → Nat → Int32} {L : Nat → Nat → Int64} {R : kx_P} {sz : Nat} {w : Int64}  : kx_M l G sX11_isPart 1 0 0 [.long w] (mW M A L R) sz (some (.int (ck_isP w))) (mW M A L R) sz := by
  refine kx_mk kx_tab kxLok_X11 (ini := false) [some (.long w), none, none] ⟨by decide, rfl, by decide, by decide⟩ (by unfold ck_isP; repeat (first | exact Or.inl rfl | exact Or.inr rfl | split)) (by simp [kx_in, Value.category]) rfl (fun g hB hC => ?_)
  have j61a : ∀ x2, ck_isP w = 1 → g 61 [some (.long w), none, x2] [.int 1] (mW M A L R) sz 0 0 := by
    intro x2 hE
    refine hB bX11_isPart_61 _ _ _ _ _ _ _ kX11_isPart_61 ?_
    dsimp only [bX11_isPart_61, kx_wp, kx_step, kx_lI, kx_lL, kx_lA, kx_gl, kx_pI, kx_pL, kx_pR, kx_pA, kx_pV, kx_s1, kx_s2, kx_sl, kx_pre, kx_c2, kx_pl, kx_cmp, kx_oF, kx_eqN, kx_nil, kx_c1, kx_ft, kx_aI, kx_aL, kx_aR, kx_ln, Nat.reduceAdd, Option.toList, List.cons_append, List.nil_append, mW_o]
    repeat (simp only [lg_cmp_ge, lg_cmp_le, lg_cmp_gt, lg_cmp_lt, lg_cmp_eq]; try dsimp only [kx_wp, kx_step, kx_lI, kx_lL, kx_lA, kx_gl, kx_pI, kx_pL, kx_pR, kx_pA, kx_pV, kx_s1, kx_s2, kx_sl, kx_pre, kx_c2, kx_pl, kx_cmp, kx_oF, kx_eqN, kx_nil, kx_c1, kx_ft, kx_aI, kx_aL, kx_aR, kx_ln, Nat.reduceAdd, Option.toList, List.cons_append, List.nil_append, mW_o])
    repeat' apply And.intro
    all_goals try (first | with_reducible assumption | (with_reducible refine ck_nzI ?_; simp; done) | (with_reducible refine ck_nzL ?_; simp; done) | (with_reducible refine vp_in_nI ?_ ?_ <;> first | omega | decide) | (with_reducible refine Nat.le_of_ble_eq_true ?_; rfl) | omega)
    · intro zc63
      have ze63 := zc63
      refine hB bX11_isPart_106 _ _ _ _ _ _ _ kX11_isPart_106 ?_
      dsimp only [bX11_isPart_106, kx_wp, kx_step, kx_lI, kx_lL, kx_lA, kx_gl, kx_pI, kx_pL, kx_pR, kx_pA, kx_pV, kx_s1, kx_s2, kx_sl, kx_pre, kx_c2, kx_pl, kx_cmp, kx_oF, kx_eqN, kx_nil, kx_c1, kx_ft, kx_aI, kx_aL, kx_aR, kx_ln, Nat.reduceAdd, Option.toList, List.cons_append, List.nil_append, mW_o]
      repeat (simp only [lg_cmp_ge, lg_cmp_le, lg_cmp_gt, lg_cmp_lt, lg_cmp_eq]; try dsimp only [kx_wp, kx_step, kx_lI, kx_lL, kx_lA, kx_gl, kx_pI, kx_pL, kx_pR, kx_pA, kx_pV, kx_s1, kx_s2, kx_sl, kx_pre, kx_c2, kx_pl, kx_cmp, kx_oF, kx_eqN, kx_nil, kx_c1, kx_ft, kx_aI, kx_aL, kx_aR, kx_ln, Nat.reduceAdd, Option.toList, List.cons_append, List.nil_append, mW_o])
      repeat' apply And.intro
      all_goals try (first | with_reducible assumption | (with_reducible refine ck_nzI ?_; simp; done) | (with_reducible refine ck_nzL ?_; simp; done) | (with_reducible refine vp_in_nI ?_ ?_ <;> first | omega | decide) | (with_reducible refine Nat.le_of_ble_eq_true ?_; rfl) | omega)
      refine hB bX11_isPart_111 _ _ _ _ _ _ _ kX11_isPart_111 ?_
      dsimp only [bX11_isPart_111, kx_wp, kx_step, kx_lI, kx_lL, kx_lA, kx_gl, kx_pI, kx_pL, kx_pR, kx_pA, kx_pV, kx_s1, kx_s2, kx_sl, kx_pre, kx_c2, kx_pl, kx_cmp, kx_oF, kx_eqN, kx_nil, kx_c1, kx_ft, kx_aI, kx_aL, kx_aR, kx_ln, Nat.reduceAdd, Option.toList, List.cons_append, List.nil_append, mW_o]
      repeat (simp only [lg_cmp_ge, lg_cmp_le, lg_cmp_gt, lg_cmp_lt, lg_cmp_eq]; try dsimp only [kx_wp, kx_step, kx_lI, kx_lL, kx_lA, kx_gl, kx_pI, kx_pL, kx_pR, kx_pA, kx_pV, kx_s1, kx_s2, kx_sl, kx_pre, kx_c2, kx_pl, kx_cmp, kx_oF, kx_eqN, kx_nil, kx_c1, kx_ft, kx_aI, kx_aL, kx_aR, kx_ln, Nat.reduceAdd, Option.toList, List.cons_append, List.nil_append, mW_o])
      all_goals (repeat' apply And.intro)
      all_goals ((try clear hB hC); first | exact True.intro | (rw [hE]; done) | with_reducible rfl)
    · intro zc63
      first | exact absurd rfl zc63 | exact absurd zc63 (by decide) | exact absurd (by decide) zc63 | (exfalso; first | exact zc63 (by decide) | exact absurd zc63 (by decide)) | (exfalso; simp_all; done)
  have j61b : ∀ x2, ¬ w = 19118 → ¬ w = 67173 → ¬ w = 755277 → ¬ w = 758834 → ¬ w = 546188 → ¬ w = 16955865 → ¬ w = 659105125 → g 61 [some (.long w), none, x2] [.int 0] (mW M A L R) sz 0 0 := by
    intro x2 hz0 hz1 hz2 hz3 hz4 hz5 hz6
    refine hB bX11_isPart_61 _ _ _ _ _ _ _ kX11_isPart_61 ?_
    dsimp only [bX11_isPart_61, kx_wp, kx_step, kx_lI, kx_lL, kx_lA, kx_gl, kx_pI, kx_pL, kx_pR, kx_pA, kx_pV, kx_s1, kx_s2, kx_sl, kx_pre, kx_c2, kx_pl, kx_cmp, kx_oF, kx_eqN, kx_nil, kx_c1, kx_ft, kx_aI, kx_aL, kx_aR, kx_ln, Nat.reduceAdd, Option.toList, List.cons_append, List.nil_append, mW_o]
    repeat (simp only [lg_cmp_ge, lg_cmp_le, lg_cmp_gt, lg_cmp_lt, lg_cmp_eq]; try dsimp only [kx_wp, kx_step, kx_lI, kx_lL, kx_lA, kx_gl, kx_pI, kx_pL, kx_pR, kx_pA, kx_pV, kx_s1, kx_s2, kx_sl, kx_pre, kx_c2, kx_pl, kx_cmp, kx_oF, kx_eqN, kx_nil, kx_c1, kx_ft, kx_aI, kx_aL, kx_aR, kx_ln, Nat.reduceAdd, Option.toList, List.cons_append, List.nil_append, mW_o])
    repeat' apply And.intro
    all_goals try (first | with_reducible assumption | (with_reducible refine ck_nzI ?_; simp; done) | (with_reducible refine ck_nzL ?_; simp; done) | (with_reducible refine vp_in_nI ?_ ?_ <;> first | omega | decide) | (with_reducible refine Nat.le_of_ble_eq_true ?_; rfl) | omega)
    · intro zc63
      first | exact absurd rfl zc63 | exact absurd zc63 (by decide) | exact absurd (by decide) zc63 | (exfalso; first | exact zc63 (by decide) | exact absurd zc63 (by decide)) | (exfalso; simp_all; done)
    · intro zc63
      with_reducible first | have ze63 := Decidable.not_not.mp zc63 | have ze63 := zc63
      refine hB bX11_isPart_66 _ _ _ _ _ _ _ kX11_isPart_66 ?_
      dsimp only [bX11_isPart_66, kx_wp, kx_step, kx_lI, kx_lL, kx_lA, kx_gl, kx_pI, kx_pL, kx_pR, kx_pA, kx_pV, kx_s1, kx_s2, kx_sl, kx_pre, kx_c2, kx_pl, kx_cmp, kx_oF, kx_eqN, kx_nil, kx_c1, kx_ft, kx_aI, kx_aL, kx_aR, kx_ln, Nat.reduceAdd, Option.toList, List.cons_append, List.nil_append, mW_o]
      repeat (simp only [lg_cmp_ge, lg_cmp_le, lg_cmp_gt, lg_cmp_lt, lg_cmp_eq]; try dsimp only [kx_wp, kx_step, kx_lI, kx_lL, kx_lA, kx_gl, kx_pI, kx_pL, kx_pR, kx_pA, kx_pV, kx_s1, kx_s2, kx_sl, kx_pre, kx_c2, kx_pl, kx_cmp, kx_oF, kx_eqN, kx_nil, kx_c1, kx_ft, kx_aI, kx_aL, kx_aR, kx_ln, Nat.reduceAdd, Option.toList, List.cons_append, List.nil_append, mW_o])
      repeat' apply And.intro
      all_goals try (first | with_reducible assumption | (with_reducible refine ck_nzI ?_; simp; done) | (with_reducible refine ck_nzL ?_; simp; done) | (with_reducible refine vp_in_nI ?_ ?_ <;> first | omega | decide) | (with_reducible refine Nat.le_of_ble_eq_true ?_; rfl) | omega)
      · intro zc71
        have ze71 := zc71
        refine hB bX11_isPart_106 _ _ _ _ _ _ _ kX11_isPart_106 ?_
        dsimp only [bX11_isPart_106, kx_wp, kx_step, kx_lI, kx_lL, kx_lA, kx_gl, kx_pI, kx_pL, kx_pR, kx_pA, kx_pV, kx_s1, kx_s2, kx_sl, kx_pre, kx_c2, kx_pl, kx_cmp, kx_oF, kx_eqN, kx_nil, kx_c1, kx_ft, kx_aI, kx_aL, kx_aR, kx_ln, Nat.reduceAdd, Option.toList, List.cons_append, List.nil_append, mW_o]
        repeat (simp only [lg_cmp_ge, lg_cmp_le, lg_cmp_gt, lg_cmp_lt, lg_cmp_eq]; try dsimp only [kx_wp, kx_step, kx_lI, kx_lL, kx_lA, kx_gl, kx_pI, kx_pL, kx_pR, kx_pA, kx_pV, kx_s1, kx_s2, kx_sl, kx_pre, kx_c2, kx_pl, kx_cmp, kx_oF, kx_eqN, kx_nil, kx_c1, kx_ft, kx_aI, kx_aL, kx_aR, kx_ln, Nat.reduceAdd, Option.toList, List.cons_append, List.nil_append, mW_o])
        repeat' apply And.intro
        all_goals try (first | with_reducible assumption | (with_reducible refine ck_nzI ?_; simp; done) | (with_reducible refine ck_nzL ?_; simp; done) | (with_reducible refine vp_in_nI ?_ ?_ <;> first | omega | decide) | (with_reducible refine Nat.le_of_ble_eq_true ?_; rfl) | omega)
        refine hB bX11_isPart_111 _ _ _ _ _ _ _ kX11_isPart_111 ?_
        dsimp only [bX11_isPart_111, kx_wp, kx_step, kx_lI, kx_lL, kx_lA, kx_gl, kx_pI, kx_pL, kx_pR, kx_pA, kx_pV, kx_s1, kx_s2, kx_sl, kx_pre, kx_c2, kx_pl, kx_cmp, kx_oF, kx_eqN, kx_nil, kx_c1, kx_ft, kx_aI, kx_aL, kx_aR, kx_ln, Nat.reduceAdd, Option.toList, List.cons_append, List.nil_append, mW_o]
        repeat (simp only [lg_cmp_ge, lg_cmp_le, lg_cmp_gt, lg_cmp_lt, lg_cmp_eq]; try dsimp only [kx_wp, kx_step, kx_lI, kx_lL, kx_lA, kx_gl, kx_pI, kx_pL, kx_pR, kx_pA, kx_pV, kx_s1, kx_s2, kx_sl, kx_pre, kx_c2, kx_pl, kx_cmp, kx_oF, kx_eqN, kx_nil, kx_c1, kx_ft, kx_aI, kx_aL, kx_aR, kx_ln, Nat.reduceAdd, Option.toList, List.cons_append, List.nil_append, mW_o])
        all_goals (repeat' apply And.intro)
        all_goals ((try clear hB hC); first | exact True.intro | (simp only [ck_isP, hz0, hz1, hz2, hz3, hz4, hz5, hz6, eq_true ze63, eq_true ze71, ↓reduceIte]; done) | with_reducible rfl)
      · intro zc71
        have ze71 := zc71
        refine hB bX11_isPart_74 _ _ _ _ _ _ _ kX11_isPart_74 ?_
        dsimp only [bX11_isPart_74, kx_wp, kx_step, kx_lI, kx_lL, kx_lA, kx_gl, kx_pI, kx_pL, kx_pR, kx_pA, kx_pV, kx_s1, kx_s2, kx_sl, kx_pre, kx_c2, kx_pl, kx_cmp, kx_oF, kx_eqN, kx_nil, kx_c1, kx_ft, kx_aI, kx_aL, kx_aR, kx_ln, Nat.reduceAdd, Option.toList, List.cons_append, List.nil_append, mW_o]
        repeat (simp only [lg_cmp_ge, lg_cmp_le, lg_cmp_gt, lg_cmp_lt, lg_cmp_eq]; try dsimp only [kx_wp, kx_step, kx_lI, kx_lL, kx_lA, kx_gl, kx_pI, kx_pL, kx_pR, kx_pA, kx_pV, kx_s1, kx_s2, kx_sl, kx_pre, kx_c2, kx_pl, kx_cmp, kx_oF, kx_eqN, kx_nil, kx_c1, kx_ft, kx_aI, kx_aL, kx_aR, kx_ln, Nat.reduceAdd, Option.toList, List.cons_append, List.nil_append, mW_o])
        repeat' apply And.intro
        all_goals try (first | with_reducible assumption | (with_reducible refine ck_nzI ?_; simp; done) | (with_reducible refine ck_nzL ?_; simp; done) | (with_reducible refine vp_in_nI ?_ ?_ <;> first | omega | decide) | (with_reducible refine Nat.le_of_ble_eq_true ?_; rfl) | omega)
        · intro zc79
          have ze79 := zc79
          refine hB bX11_isPart_106 _ _ _ _ _ _ _ kX11_isPart_106 ?_
          dsimp only [bX11_isPart_106, kx_wp, kx_step, kx_lI, kx_lL, kx_lA, kx_gl, kx_pI, kx_pL, kx_pR, kx_pA, kx_pV, kx_s1, kx_s2, kx_sl, kx_pre, kx_c2, kx_pl, kx_cmp, kx_oF, kx_eqN, kx_nil, kx_c1, kx_ft, kx_aI, kx_aL, kx_aR, kx_ln, Nat.reduceAdd, Option.toList, List.cons_append, List.nil_append, mW_o]
          repeat (simp only [lg_cmp_ge, lg_cmp_le, lg_cmp_gt, lg_cmp_lt, lg_cmp_eq]; try dsimp only [kx_wp, kx_step, kx_lI, kx_lL, kx_lA, kx_gl, kx_pI, kx_pL, kx_pR, kx_pA, kx_pV, kx_s1, kx_s2, kx_sl, kx_pre, kx_c2, kx_pl, kx_cmp, kx_oF, kx_eqN, kx_nil, kx_c1, kx_ft, kx_aI, kx_aL, kx_aR, kx_ln, Nat.reduceAdd, Option.toList, List.cons_append, List.nil_append, mW_o])
          repeat' apply And.intro
          all_goals try (first | with_reducible assumption | (with_reducible refine ck_nzI ?_; simp; done) | (with_reducible refine ck_nzL ?_; simp; done) | (with_reducible refine vp_in_nI ?_ ?_ <;> first | omega | decide) | (with_reducible refine Nat.le_of_ble_eq_true ?_; rfl) | omega)
          refine hB bX11_isPart_111 _ _ _ _ _ _ _ kX11_isPart_111 ?_
          dsimp only [bX11_isPart_111, kx_wp, kx_step, kx_lI, kx_lL, kx_lA, kx_gl, kx_pI, kx_pL, kx_pR, kx_pA, kx_pV, kx_s1, kx_s2, kx_sl, kx_pre, kx_c2, kx_pl, kx_cmp, kx_oF, kx_eqN, kx_nil, kx_c1, kx_ft, kx_aI, kx_aL, kx_aR, kx_ln, Nat.reduceAdd, Option.toList, List.cons_append, List.nil_append, mW_o]
          repeat (simp only [lg_cmp_ge, lg_cmp_le, lg_cmp_gt, lg_cmp_lt, lg_cmp_eq]; try dsimp only [kx_wp, kx_step, kx_lI, kx_lL, kx_lA, kx_gl, kx_pI, kx_pL, kx_pR, kx_pA, kx_pV, kx_s1, kx_s2, kx_sl, kx_pre, kx_c2, kx_pl, kx_cmp, kx_oF, kx_eqN, kx_nil, kx_c1, kx_ft, kx_aI, kx_aL, kx_aR, kx_ln, Nat.reduceAdd, Option.toList, List.cons_append, List.nil_append, mW_o])
          all_goals (repeat' apply And.intro)
          all_goals ((try clear hB hC); first | exact True.intro | (simp only [ck_isP, hz0, hz1, hz2, hz3, hz4, hz5, hz6, eq_true ze63, ze71, eq_true ze79, ↓reduceIte]; done) | with_reducible rfl)
        · intro zc79
          have ze79 := zc79
          refine hB bX11_isPart_82 _ _ _ _ _ _ _ kX11_isPart_82 ?_
          dsimp only [bX11_isPart_82, kx_wp, kx_step, kx_lI, kx_lL, kx_lA, kx_gl, kx_pI, kx_pL, kx_pR, kx_pA, kx_pV, kx_s1, kx_s2, kx_sl, kx_pre, kx_c2, kx_pl, kx_cmp, kx_oF, kx_eqN, kx_nil, kx_c1, kx_ft, kx_aI, kx_aL, kx_aR, kx_ln, Nat.reduceAdd, Option.toList, List.cons_append, List.nil_append, mW_o]
          repeat (simp only [lg_cmp_ge, lg_cmp_le, lg_cmp_gt, lg_cmp_lt, lg_cmp_eq]; try dsimp only [kx_wp, kx_step, kx_lI, kx_lL, kx_lA, kx_gl, kx_pI, kx_pL, kx_pR, kx_pA, kx_pV, kx_s1, kx_s2, kx_sl, kx_pre, kx_c2, kx_pl, kx_cmp, kx_oF, kx_eqN, kx_nil, kx_c1, kx_ft, kx_aI, kx_aL, kx_aR, kx_ln, Nat.reduceAdd, Option.toList, List.cons_append, List.nil_append, mW_o])
          repeat' apply And.intro
          all_goals try (first | with_reducible assumption | (with_reducible refine ck_nzI ?_; simp; done) | (with_reducible refine ck_nzL ?_; simp; done) | (with_reducible refine vp_in_nI ?_ ?_ <;> first | omega | decide) | (with_reducible refine Nat.le_of_ble_eq_true ?_; rfl) | omega)
          · intro zc87
            have ze87 := zc87
            refine hB bX11_isPart_106 _ _ _ _ _ _ _ kX11_isPart_106 ?_
            dsimp only [bX11_isPart_106, kx_wp, kx_step, kx_lI, kx_lL, kx_lA, kx_gl, kx_pI, kx_pL, kx_pR, kx_pA, kx_pV, kx_s1, kx_s2, kx_sl, kx_pre, kx_c2, kx_pl, kx_cmp, kx_oF, kx_eqN, kx_nil, kx_c1, kx_ft, kx_aI, kx_aL, kx_aR, kx_ln, Nat.reduceAdd, Option.toList, List.cons_append, List.nil_append, mW_o]
            repeat (simp only [lg_cmp_ge, lg_cmp_le, lg_cmp_gt, lg_cmp_lt, lg_cmp_eq]; try dsimp only [kx_wp, kx_step, kx_lI, kx_lL, kx_lA, kx_gl, kx_pI, kx_pL, kx_pR, kx_pA, kx_pV, kx_s1, kx_s2, kx_sl, kx_pre, kx_c2, kx_pl, kx_cmp, kx_oF, kx_eqN, kx_nil, kx_c1, kx_ft, kx_aI, kx_aL, kx_aR, kx_ln, Nat.reduceAdd, Option.toList, List.cons_append, List.nil_append, mW_o])
            repeat' apply And.intro
            all_goals try (first | with_reducible assumption | (with_reducible refine ck_nzI ?_; simp; done) | (with_reducible refine ck_nzL ?_; simp; done) | (with_reducible refine vp_in_nI ?_ ?_ <;> first | omega | decide) | (with_reducible refine Nat.le_of_ble_eq_true ?_; rfl) | omega)
            refine hB bX11_isPart_111 _ _ _ _ _ _ _ kX11_isPart_111 ?_
            dsimp only [bX11_isPart_111, kx_wp, kx_step, kx_lI, kx_lL, kx_lA, kx_gl, kx_pI, kx_pL, kx_pR, kx_pA, kx_pV, kx_s1, kx_s2, kx_sl, kx_pre, kx_c2, kx_pl, kx_cmp, kx_oF, kx_eqN, kx_nil, kx_c1, kx_ft, kx_aI, kx_aL, kx_aR, kx_ln, Nat.reduceAdd, Option.toList, List.cons_append, List.nil_append, mW_o]
            repeat (simp only [lg_cmp_ge, lg_cmp_le, lg_cmp_gt, lg_cmp_lt, lg_cmp_eq]; try dsimp only [kx_wp, kx_step, kx_lI, kx_lL, kx_lA, kx_gl, kx_pI, kx_pL, kx_pR, kx_pA, kx_pV, kx_s1, kx_s2, kx_sl, kx_pre, kx_c2, kx_pl, kx_cmp, kx_oF, kx_eqN, kx_nil, kx_c1, kx_ft, kx_aI, kx_aL, kx_aR, kx_ln, Nat.reduceAdd, Option.toList, List.cons_append, List.nil_append, mW_o])
            all_goals (repeat' apply And.intro)
            all_goals ((try clear hB hC); first | exact True.intro | (simp only [ck_isP, hz0, hz1, hz2, hz3, hz4, hz5, hz6, eq_true ze63, ze71, ze79, eq_true ze87, ↓reduceIte]; done) | with_reducible rfl)
          · intro zc87
            have ze87 := zc87
            refine hB bX11_isPart_90 _ _ _ _ _ _ _ kX11_isPart_90 ?_
            dsimp only [bX11_isPart_90, kx_wp, kx_step, kx_lI, kx_lL, kx_lA, kx_gl, kx_pI, kx_pL, kx_pR, kx_pA, kx_pV, kx_s1, kx_s2, kx_sl, kx_pre, kx_c2, kx_pl, kx_cmp, kx_oF, kx_eqN, kx_nil, kx_c1, kx_ft, kx_aI, kx_aL, kx_aR, kx_ln, Nat.reduceAdd, Option.toList, List.cons_append, List.nil_append, mW_o]
            repeat (simp only [lg_cmp_ge, lg_cmp_le, lg_cmp_gt, lg_cmp_lt, lg_cmp_eq]; try dsimp only [kx_wp, kx_step, kx_lI, kx_lL, kx_lA, kx_gl, kx_pI, kx_pL, kx_pR, kx_pA, kx_pV, kx_s1, kx_s2, kx_sl, kx_pre, kx_c2, kx_pl, kx_cmp, kx_oF, kx_eqN, kx_nil, kx_c1, kx_ft, kx_aI, kx_aL, kx_aR, kx_ln, Nat.reduceAdd, Option.toList, List.cons_append, List.nil_append, mW_o])
            repeat' apply And.intro
            all_goals try (first | with_reducible assumption | (with_reducible refine ck_nzI ?_; simp; done) | (with_reducible refine ck_nzL ?_; simp; done) | (with_reducible refine vp_in_nI ?_ ?_ <;> first | omega | decide) | (with_reducible refine Nat.le_of_ble_eq_true ?_; rfl) | omega)
            · intro zc95
              have ze95 := zc95
              refine hB bX11_isPart_106 _ _ _ _ _ _ _ kX11_isPart_106 ?_
              dsimp only [bX11_isPart_106, kx_wp, kx_step, kx_lI, kx_lL, kx_lA, kx_gl, kx_pI, kx_pL, kx_pR, kx_pA, kx_pV, kx_s1, kx_s2, kx_sl, kx_pre, kx_c2, kx_pl, kx_cmp, kx_oF, kx_eqN, kx_nil, kx_c1, kx_ft, kx_aI, kx_aL, kx_aR, kx_ln, Nat.reduceAdd, Option.toList, List.cons_append, List.nil_append, mW_o]
              repeat (simp only [lg_cmp_ge, lg_cmp_le, lg_cmp_gt, lg_cmp_lt, lg_cmp_eq]; try dsimp only [kx_wp, kx_step, kx_lI, kx_lL, kx_lA, kx_gl, kx_pI, kx_pL, kx_pR, kx_pA, kx_pV, kx_s1, kx_s2, kx_sl, kx_pre, kx_c2, kx_pl, kx_cmp, kx_oF, kx_eqN, kx_nil, kx_c1, kx_ft, kx_aI, kx_aL, kx_aR, kx_ln, Nat.reduceAdd, Option.toList, List.cons_append, List.nil_append, mW_o])
              repeat' apply And.intro
              all_goals try (first | with_reducible assumption | (with_reducible refine ck_nzI ?_; simp; done) | (with_reducible refine ck_nzL ?_; simp; done) | (with_reducible refine vp_in_nI ?_ ?_ <;> first | omega | decide) | (with_reducible refine Nat.le_of_ble_eq_true ?_; rfl) | omega)
              refine hB bX11_isPart_111 _ _ _ _ _ _ _ kX11_isPart_111 ?_
              dsimp only [bX11_isPart_111, kx_wp, kx_step, kx_lI, kx_lL, kx_lA, kx_gl, kx_pI, kx_pL, kx_pR, kx_pA, kx_pV, kx_s1, kx_s2, kx_sl, kx_pre, kx_c2, kx_pl, kx_cmp, kx_oF, kx_eqN, kx_nil, kx_c1, kx_ft, kx_aI, kx_aL, kx_aR, kx_ln, Nat.reduceAdd, Option.toList, List.cons_append, List.nil_append, mW_o]
              repeat (simp only [lg_cmp_ge, lg_cmp_le, lg_cmp_gt, lg_cmp_lt, lg_cmp_eq]; try dsimp only [kx_wp, kx_step, kx_lI, kx_lL, kx_lA, kx_gl, kx_pI, kx_pL, kx_pR, kx_pA, kx_pV, kx_s1, kx_s2, kx_sl, kx_pre, kx_c2, kx_pl, kx_cmp, kx_oF, kx_eqN, kx_nil, kx_c1, kx_ft, kx_aI, kx_aL, kx_aR, kx_ln, Nat.reduceAdd, Option.toList, List.cons_append, List.nil_append, mW_o])
              all_goals (repeat' apply And.intro)
              all_goals ((try clear hB hC); first | exact True.intro | (simp only [ck_isP, hz0, hz1, hz2, hz3, hz4, hz5, hz6, eq_true ze63, ze71, ze79, ze87, eq_true ze95, ↓reduceIte]; done) | with_reducible rfl)
            · intro zc95
              have ze95 := zc95
              refine hB bX11_isPart_98 _ _ _ _ _ _ _ kX11_isPart_98 ?_
              dsimp only [bX11_isPart_98, kx_wp, kx_step, kx_lI, kx_lL, kx_lA, kx_gl, kx_pI, kx_pL, kx_pR, kx_pA, kx_pV, kx_s1, kx_s2, kx_sl, kx_pre, kx_c2, kx_pl, kx_cmp, kx_oF, kx_eqN, kx_nil, kx_c1, kx_ft, kx_aI, kx_aL, kx_aR, kx_ln, Nat.reduceAdd, Option.toList, List.cons_append, List.nil_append, mW_o]
              repeat (simp only [lg_cmp_ge, lg_cmp_le, lg_cmp_gt, lg_cmp_lt, lg_cmp_eq]; try dsimp only [kx_wp, kx_step, kx_lI, kx_lL, kx_lA, kx_gl, kx_pI, kx_pL, kx_pR, kx_pA, kx_pV, kx_s1, kx_s2, kx_sl, kx_pre, kx_c2, kx_pl, kx_cmp, kx_oF, kx_eqN, kx_nil, kx_c1, kx_ft, kx_aI, kx_aL, kx_aR, kx_ln, Nat.reduceAdd, Option.toList, List.cons_append, List.nil_append, mW_o])
              repeat' apply And.intro
              all_goals try (first | with_reducible assumption | (with_reducible refine ck_nzI ?_; simp; done) | (with_reducible refine ck_nzL ?_; simp; done) | (with_reducible refine vp_in_nI ?_ ?_ <;> first | omega | decide) | (with_reducible refine Nat.le_of_ble_eq_true ?_; rfl) | omega)
              · intro zc103
                have ze103 := zc103
                refine hB bX11_isPart_110 _ _ _ _ _ _ _ kX11_isPart_110 ?_
                dsimp only [bX11_isPart_110, kx_wp, kx_step, kx_lI, kx_lL, kx_lA, kx_gl, kx_pI, kx_pL, kx_pR, kx_pA, kx_pV, kx_s1, kx_s2, kx_sl, kx_pre, kx_c2, kx_pl, kx_cmp, kx_oF, kx_eqN, kx_nil, kx_c1, kx_ft, kx_aI, kx_aL, kx_aR, kx_ln, Nat.reduceAdd, Option.toList, List.cons_append, List.nil_append, mW_o]
                repeat (simp only [lg_cmp_ge, lg_cmp_le, lg_cmp_gt, lg_cmp_lt, lg_cmp_eq]; try dsimp only [kx_wp, kx_step, kx_lI, kx_lL, kx_lA, kx_gl, kx_pI, kx_pL, kx_pR, kx_pA, kx_pV, kx_s1, kx_s2, kx_sl, kx_pre, kx_c2, kx_pl, kx_cmp, kx_oF, kx_eqN, kx_nil, kx_c1, kx_ft, kx_aI, kx_aL, kx_aR, kx_ln, Nat.reduceAdd, Option.toList, List.cons_append, List.nil_append, mW_o])
                repeat' apply And.intro
                all_goals try (first | with_reducible assumption | (with_reducible refine ck_nzI ?_; simp; done) | (with_reducible refine ck_nzL ?_; simp; done) | (with_reducible refine vp_in_nI ?_ ?_ <;> first | omega | decide) | (with_reducible refine Nat.le_of_ble_eq_true ?_; rfl) | omega)
                refine hB bX11_isPart_111 _ _ _ _ _ _ _ kX11_isPart_111 ?_
                dsimp only [bX11_isPart_111, kx_wp, kx_step, kx_lI, kx_lL, kx_lA, kx_gl, kx_pI, kx_pL, kx_pR, kx_pA, kx_pV, kx_s1, kx_s2, kx_sl, kx_pre, kx_c2, kx_pl, kx_cmp, kx_oF, kx_eqN, kx_nil, kx_c1, kx_ft, kx_aI, kx_aL, kx_aR, kx_ln, Nat.reduceAdd, Option.toList, List.cons_append, List.nil_append, mW_o]
                repeat (simp only [lg_cmp_ge, lg_cmp_le, lg_cmp_gt, lg_cmp_lt, lg_cmp_eq]; try dsimp only [kx_wp, kx_step, kx_lI, kx_lL, kx_lA, kx_gl, kx_pI, kx_pL, kx_pR, kx_pA, kx_pV, kx_s1, kx_s2, kx_sl, kx_pre, kx_c2, kx_pl, kx_cmp, kx_oF, kx_eqN, kx_nil, kx_c1, kx_ft, kx_aI, kx_aL, kx_aR, kx_ln, Nat.reduceAdd, Option.toList, List.cons_append, List.nil_append, mW_o])
                all_goals (repeat' apply And.intro)
                all_goals ((try clear hB hC); first | exact True.intro | (simp only [ck_isP, hz0, hz1, hz2, hz3, hz4, hz5, hz6, eq_true ze63, ze71, ze79, ze87, ze95, ze103, ↓reduceIte]; done) | with_reducible rfl)
              · intro zc103
                with_reducible first | have ze103 := Decidable.not_not.mp zc103 | have ze103 := zc103
                refine hB bX11_isPart_106 _ _ _ _ _ _ _ kX11_isPart_106 ?_
                dsimp only [bX11_isPart_106, kx_wp, kx_step, kx_lI, kx_lL, kx_lA, kx_gl, kx_pI, kx_pL, kx_pR, kx_pA, kx_pV, kx_s1, kx_s2, kx_sl, kx_pre, kx_c2, kx_pl, kx_cmp, kx_oF, kx_eqN, kx_nil, kx_c1, kx_ft, kx_aI, kx_aL, kx_aR, kx_ln, Nat.reduceAdd, Option.toList, List.cons_append, List.nil_append, mW_o]
                repeat (simp only [lg_cmp_ge, lg_cmp_le, lg_cmp_gt, lg_cmp_lt, lg_cmp_eq]; try dsimp only [kx_wp, kx_step, kx_lI, kx_lL, kx_lA, kx_gl, kx_pI, kx_pL, kx_pR, kx_pA, kx_pV, kx_s1, kx_s2, kx_sl, kx_pre, kx_c2, kx_pl, kx_cmp, kx_oF, kx_eqN, kx_nil, kx_c1, kx_ft, kx_aI, kx_aL, kx_aR, kx_ln, Nat.reduceAdd, Option.toList, List.cons_append, List.nil_append, mW_o])
                repeat' apply And.intro
                all_goals try (first | with_reducible assumption | (with_reducible refine ck_nzI ?_; simp; done) | (with_reducible refine ck_nzL ?_; simp; done) | (with_reducible refine vp_in_nI ?_ ?_ <;> first | omega | decide) | (with_reducible refine Nat.le_of_ble_eq_true ?_; rfl) | omega)
                refine hB bX11_isPart_111 _ _ _ _ _ _ _ kX11_isPart_111 ?_
                dsimp only [bX11_isPart_111, kx_wp, kx_step, kx_lI, kx_lL, kx_lA, kx_gl, kx_pI, kx_pL, kx_pR, kx_pA, kx_pV, kx_s1, kx_s2, kx_sl, kx_pre, kx_c2, kx_pl, kx_cmp, kx_oF, kx_eqN, kx_nil, kx_c1, kx_ft, kx_aI, kx_aL, kx_aR, kx_ln, Nat.reduceAdd, Option.toList, List.cons_append, List.nil_append, mW_o]
                repeat (simp only [lg_cmp_ge, lg_cmp_le, lg_cmp_gt, lg_cmp_lt, lg_cmp_eq]; try dsimp only [kx_wp, kx_step, kx_lI, kx_lL, kx_lA, kx_gl, kx_pI, kx_pL, kx_pR, kx_pA, kx_pV, kx_s1, kx_s2, kx_sl, kx_pre, kx_c2, kx_pl, kx_cmp, kx_oF, kx_eqN, kx_nil, kx_c1, kx_ft, kx_aI, kx_aL, kx_aR, kx_ln, Nat.reduceAdd, Option.toList, List.cons_append, List.nil_append, mW_o])
                all_goals (repeat' apply And.intro)
                all_goals ((try clear hB hC); first | exact True.intro | (simp only [ck_isP, hz0, hz1, hz2, hz3, hz4, hz5, hz6, eq_true ze63, ze71, ze79, ze87, ze95, eq_true ze103, ↓reduceIte]; done) | with_reducible rfl)
  refine hB bX11_isPart_0 _ _ _ _ _ _ _ kX11_isPart_0 ?_
  dsimp only [bX11_isPart_0, kx_wp, kx_step, kx_lI, kx_lL, kx_lA, kx_gl, kx_pI, kx_pL, kx_pR, kx_pA, kx_pV, kx_s1, kx_s2, kx_sl, kx_pre, kx_c2, kx_pl, kx_cmp, kx_oF, kx_eqN, kx_nil, kx_c1, kx_ft, kx_aI, kx_aL, kx_aR, kx_ln, Nat.reduceAdd, Option.toList, List.cons_append, List.nil_append, mW_o]
  repeat (simp only [lg_cmp_ge, lg_cmp_le, lg_cmp_gt, lg_cmp_lt, lg_cmp_eq]; try dsimp only [kx_wp, kx_step, kx_lI, kx_lL, kx_lA, kx_gl, kx_pI, kx_pL, kx_pR, kx_pA, kx_pV, kx_s1, kx_s2, kx_sl, kx_pre, kx_c2, kx_pl, kx_cmp, kx_oF, kx_eqN, kx_nil, kx_c1, kx_ft, kx_aI, kx_aL, kx_aR, kx_ln, Nat.reduceAdd, Option.toList, List.cons_append, List.nil_append, mW_o])
  repeat' apply And.intro
  all_goals try (first | with_reducible assumption | (with_reducible refine ck_nzI ?_; simp; done) | (with_reducible refine ck_nzL ?_; simp; done) | (with_reducible refine vp_in_nI ?_ ?_ <;> first | omega | decide) | (with_reducible refine Nat.le_of_ble_eq_true ?_; rfl) | omega)
  · intro zc5
    have ze5 := zc5
    refine hB bX11_isPart_56 _ _ _ _ _ _ _ kX11_isPart_56 ?_
    dsimp only [bX11_isPart_56, kx_wp, kx_step, kx_lI, kx_lL, kx_lA, kx_gl, kx_pI, kx_pL, kx_pR, kx_pA, kx_pV, kx_s1, kx_s2, kx_sl, kx_pre, kx_c2, kx_pl, kx_cmp, kx_oF, kx_eqN, kx_nil, kx_c1, kx_ft, kx_aI, kx_aL, kx_aR, kx_ln, Nat.reduceAdd, Option.toList, List.cons_append, List.nil_append, mW_o]
    repeat (simp only [lg_cmp_ge, lg_cmp_le, lg_cmp_gt, lg_cmp_lt, lg_cmp_eq]; try dsimp only [kx_wp, kx_step, kx_lI, kx_lL, kx_lA, kx_gl, kx_pI, kx_pL, kx_pR, kx_pA, kx_pV, kx_s1, kx_s2, kx_sl, kx_pre, kx_c2, kx_pl, kx_cmp, kx_oF, kx_eqN, kx_nil, kx_c1, kx_ft, kx_aI, kx_aL, kx_aR, kx_ln, Nat.reduceAdd, Option.toList, List.cons_append, List.nil_append, mW_o])
    repeat' apply And.intro
    all_goals try (first | with_reducible assumption | (with_reducible refine ck_nzI ?_; simp; done) | (with_reducible refine ck_nzL ?_; simp; done) | (with_reducible refine vp_in_nI ?_ ?_ <;> first | omega | decide) | (with_reducible refine Nat.le_of_ble_eq_true ?_; rfl) | omega)
    first | exact j61a _ (by simp only [ck_isP, eq_true ze5, ↓reduceIte]) | exact j61b _ ze5 ze13 ze21 ze29 ze37 ze45 ze53
  · intro zc5
    have ze5 := zc5
    refine hB bX11_isPart_8 _ _ _ _ _ _ _ kX11_isPart_8 ?_
    dsimp only [bX11_isPart_8, kx_wp, kx_step, kx_lI, kx_lL, kx_lA, kx_gl, kx_pI, kx_pL, kx_pR, kx_pA, kx_pV, kx_s1, kx_s2, kx_sl, kx_pre, kx_c2, kx_pl, kx_cmp, kx_oF, kx_eqN, kx_nil, kx_c1, kx_ft, kx_aI, kx_aL, kx_aR, kx_ln, Nat.reduceAdd, Option.toList, List.cons_append, List.nil_append, mW_o]
    repeat (simp only [lg_cmp_ge, lg_cmp_le, lg_cmp_gt, lg_cmp_lt, lg_cmp_eq]; try dsimp only [kx_wp, kx_step, kx_lI, kx_lL, kx_lA, kx_gl, kx_pI, kx_pL, kx_pR, kx_pA, kx_pV, kx_s1, kx_s2, kx_sl, kx_pre, kx_c2, kx_pl, kx_cmp, kx_oF, kx_eqN, kx_nil, kx_c1, kx_ft, kx_aI, kx_aL, kx_aR, kx_ln, Nat.reduceAdd, Option.toList, List.cons_append, List.nil_append, mW_o])
    repeat' apply And.intro
    all_goals try (first | with_reducible assumption | (with_reducible refine ck_nzI ?_; simp; done) | (with_reducible refine ck_nzL ?_; simp; done) | (with_reducible refine vp_in_nI ?_ ?_ <;> first | omega | decide) | (with_reducible refine Nat.le_of_ble_eq_true ?_; rfl) | omega)
    · intro zc13
      have ze13 := zc13
      refine hB bX11_isPart_56 _ _ _ _ _ _ _ kX11_isPart_56 ?_
      dsimp only [bX11_isPart_56, kx_wp, kx_step, kx_lI, kx_lL, kx_lA, kx_gl, kx_pI, kx_pL, kx_pR, kx_pA, kx_pV, kx_s1, kx_s2, kx_sl, kx_pre, kx_c2, kx_pl, kx_cmp, kx_oF, kx_eqN, kx_nil, kx_c1, kx_ft, kx_aI, kx_aL, kx_aR, kx_ln, Nat.reduceAdd, Option.toList, List.cons_append, List.nil_append, mW_o]
      repeat (simp only [lg_cmp_ge, lg_cmp_le, lg_cmp_gt, lg_cmp_lt, lg_cmp_eq]; try dsimp only [kx_wp, kx_step, kx_lI, kx_lL, kx_lA, kx_gl, kx_pI, kx_pL, kx_pR, kx_pA, kx_pV, kx_s1, kx_s2, kx_sl, kx_pre, kx_c2, kx_pl, kx_cmp, kx_oF, kx_eqN, kx_nil, kx_c1, kx_ft, kx_aI, kx_aL, kx_aR, kx_ln, Nat.reduceAdd, Option.toList, List.cons_append, List.nil_append, mW_o])
      repeat' apply And.intro
      all_goals try (first | with_reducible assumption | (with_reducible refine ck_nzI ?_; simp; done) | (with_reducible refine ck_nzL ?_; simp; done) | (with_reducible refine vp_in_nI ?_ ?_ <;> first | omega | decide) | (with_reducible refine Nat.le_of_ble_eq_true ?_; rfl) | omega)
      first | exact j61a _ (by simp only [ck_isP, ze5, eq_true ze13, ↓reduceIte]) | exact j61b _ ze5 ze13 ze21 ze29 ze37 ze45 ze53
    · intro zc13
      have ze13 := zc13
      refine hB bX11_isPart_16 _ _ _ _ _ _ _ kX11_isPart_16 ?_
      dsimp only [bX11_isPart_16, kx_wp, kx_step, kx_lI, kx_lL, kx_lA, kx_gl, kx_pI, kx_pL, kx_pR, kx_pA, kx_pV, kx_s1, kx_s2, kx_sl, kx_pre, kx_c2, kx_pl, kx_cmp, kx_oF, kx_eqN, kx_nil, kx_c1, kx_ft, kx_aI, kx_aL, kx_aR, kx_ln, Nat.reduceAdd, Option.toList, List.cons_append, List.nil_append, mW_o]
      repeat (simp only [lg_cmp_ge, lg_cmp_le, lg_cmp_gt, lg_cmp_lt, lg_cmp_eq]; try dsimp only [kx_wp, kx_step, kx_lI, kx_lL, kx_lA, kx_gl, kx_pI, kx_pL, kx_pR, kx_pA, kx_pV, kx_s1, kx_s2, kx_sl, kx_pre, kx_c2, kx_pl, kx_cmp, kx_oF, kx_eqN, kx_nil, kx_c1, kx_ft, kx_aI, kx_aL, kx_aR, kx_ln, Nat.reduceAdd, Option.toList, List.cons_append, List.nil_append, mW_o])
      repeat' apply And.intro
      all_goals try (first | with_reducible assumption | (with_reducible refine ck_nzI ?_; simp; done) | (with_reducible refine ck_nzL ?_; simp; done) | (with_reducible refine vp_in_nI ?_ ?_ <;> first | omega | decide) | (with_reducible refine Nat.le_of_ble_eq_true ?_; rfl) | omega)
      · intro zc21
        have ze21 := zc21
        refine hB bX11_isPart_56 _ _ _ _ _ _ _ kX11_isPart_56 ?_
        dsimp only [bX11_isPart_56, kx_wp, kx_step, kx_lI, kx_lL, kx_lA, kx_gl, kx_pI, kx_pL, kx_pR, kx_pA, kx_pV, kx_s1, kx_s2, kx_sl, kx_pre, kx_c2, kx_pl, kx_cmp, kx_oF, kx_eqN, kx_nil, kx_c1, kx_ft, kx_aI, kx_aL, kx_aR, kx_ln, Nat.reduceAdd, Option.toList, List.cons_append, List.nil_append, mW_o]
        repeat (simp only [lg_cmp_ge, lg_cmp_le, lg_cmp_gt, lg_cmp_lt, lg_cmp_eq]; try dsimp only [kx_wp, kx_step, kx_lI, kx_lL, kx_lA, kx_gl, kx_pI, kx_pL, kx_pR, kx_pA, kx_pV, kx_s1, kx_s2, kx_sl, kx_pre, kx_c2, kx_pl, kx_cmp, kx_oF, kx_eqN, kx_nil, kx_c1, kx_ft, kx_aI, kx_aL, kx_aR, kx_ln, Nat.reduceAdd, Option.toList, List.cons_append, List.nil_append, mW_o])
        repeat' apply And.intro
        all_goals try (first | with_reducible assumption | (with_reducible refine ck_nzI ?_; simp; done) | (with_reducible refine ck_nzL ?_; simp; done) | (with_reducible refine vp_in_nI ?_ ?_ <;> first | omega | decide) | (with_reducible refine Nat.le_of_ble_eq_true ?_; rfl) | omega)
        first | exact j61a _ (by simp only [ck_isP, ze5, ze13, eq_true ze21, ↓reduceIte]) | exact j61b _ ze5 ze13 ze21 ze29 ze37 ze45 ze53
      · intro zc21
        have ze21 := zc21
        refine hB bX11_isPart_24 _ _ _ _ _ _ _ kX11_isPart_24 ?_
        dsimp only [bX11_isPart_24, kx_wp, kx_step, kx_lI, kx_lL, kx_lA, kx_gl, kx_pI, kx_pL, kx_pR, kx_pA, kx_pV, kx_s1, kx_s2, kx_sl, kx_pre, kx_c2, kx_pl, kx_cmp, kx_oF, kx_eqN, kx_nil, kx_c1, kx_ft, kx_aI, kx_aL, kx_aR, kx_ln, Nat.reduceAdd, Option.toList, List.cons_append, List.nil_append, mW_o]
        repeat (simp only [lg_cmp_ge, lg_cmp_le, lg_cmp_gt, lg_cmp_lt, lg_cmp_eq]; try dsimp only [kx_wp, kx_step, kx_lI, kx_lL, kx_lA, kx_gl, kx_pI, kx_pL, kx_pR, kx_pA, kx_pV, kx_s1, kx_s2, kx_sl, kx_pre, kx_c2, kx_pl, kx_cmp, kx_oF, kx_eqN, kx_nil, kx_c1, kx_ft, kx_aI, kx_aL, kx_aR, kx_ln, Nat.reduceAdd, Option.toList, List.cons_append, List.nil_append, mW_o])
        repeat' apply And.intro
        all_goals try (first | with_reducible assumption | (with_reducible refine ck_nzI ?_; simp; done) | (with_reducible refine ck_nzL ?_; simp; done) | (with_reducible refine vp_in_nI ?_ ?_ <;> first | omega | decide) | (with_reducible refine Nat.le_of_ble_eq_true ?_; rfl) | omega)
        · intro zc29
          have ze29 := zc29
          refine hB bX11_isPart_56 _ _ _ _ _ _ _ kX11_isPart_56 ?_
          dsimp only [bX11_isPart_56, kx_wp, kx_step, kx_lI, kx_lL, kx_lA, kx_gl, kx_pI, kx_pL, kx_pR, kx_pA, kx_pV, kx_s1, kx_s2, kx_sl, kx_pre, kx_c2, kx_pl, kx_cmp, kx_oF, kx_eqN, kx_nil, kx_c1, kx_ft, kx_aI, kx_aL, kx_aR, kx_ln, Nat.reduceAdd, Option.toList, List.cons_append, List.nil_append, mW_o]
          repeat (simp only [lg_cmp_ge, lg_cmp_le, lg_cmp_gt, lg_cmp_lt, lg_cmp_eq]; try dsimp only [kx_wp, kx_step, kx_lI, kx_lL, kx_lA, kx_gl, kx_pI, kx_pL, kx_pR, kx_pA, kx_pV, kx_s1, kx_s2, kx_sl, kx_pre, kx_c2, kx_pl, kx_cmp, kx_oF, kx_eqN, kx_nil, kx_c1, kx_ft, kx_aI, kx_aL, kx_aR, kx_ln, Nat.reduceAdd, Option.toList, List.cons_append, List.nil_append, mW_o])
          repeat' apply And.intro
          all_goals try (first | with_reducible assumption | (with_reducible refine ck_nzI ?_; simp; done) | (with_reducible refine ck_nzL ?_; simp; done) | (with_reducible refine vp_in_nI ?_ ?_ <;> first | omega | decide) | (with_reducible refine Nat.le_of_ble_eq_true ?_; rfl) | omega)
          first | exact j61a _ (by simp only [ck_isP, ze5, ze13, ze21, eq_true ze29, ↓reduceIte]) | exact j61b _ ze5 ze13 ze21 ze29 ze37 ze45 ze53
        · intro zc29
          have ze29 := zc29
          refine hB bX11_isPart_32 _ _ _ _ _ _ _ kX11_isPart_32 ?_
          dsimp only [bX11_isPart_32, kx_wp, kx_step, kx_lI, kx_lL, kx_lA, kx_gl, kx_pI, kx_pL, kx_pR, kx_pA, kx_pV, kx_s1, kx_s2, kx_sl, kx_pre, kx_c2, kx_pl, kx_cmp, kx_oF, kx_eqN, kx_nil, kx_c1, kx_ft, kx_aI, kx_aL, kx_aR, kx_ln, Nat.reduceAdd, Option.toList, List.cons_append, List.nil_append, mW_o]
          repeat (simp only [lg_cmp_ge, lg_cmp_le, lg_cmp_gt, lg_cmp_lt, lg_cmp_eq]; try dsimp only [kx_wp, kx_step, kx_lI, kx_lL, kx_lA, kx_gl, kx_pI, kx_pL, kx_pR, kx_pA, kx_pV, kx_s1, kx_s2, kx_sl, kx_pre, kx_c2, kx_pl, kx_cmp, kx_oF, kx_eqN, kx_nil, kx_c1, kx_ft, kx_aI, kx_aL, kx_aR, kx_ln, Nat.reduceAdd, Option.toList, List.cons_append, List.nil_append, mW_o])
          repeat' apply And.intro
          all_goals try (first | with_reducible assumption | (with_reducible refine ck_nzI ?_; simp; done) | (with_reducible refine ck_nzL ?_; simp; done) | (with_reducible refine vp_in_nI ?_ ?_ <;> first | omega | decide) | (with_reducible refine Nat.le_of_ble_eq_true ?_; rfl) | omega)
          · intro zc37
            have ze37 := zc37
            refine hB bX11_isPart_56 _ _ _ _ _ _ _ kX11_isPart_56 ?_
            dsimp only [bX11_isPart_56, kx_wp, kx_step, kx_lI, kx_lL, kx_lA, kx_gl, kx_pI, kx_pL, kx_pR, kx_pA, kx_pV, kx_s1, kx_s2, kx_sl, kx_pre, kx_c2, kx_pl, kx_cmp, kx_oF, kx_eqN, kx_nil, kx_c1, kx_ft, kx_aI, kx_aL, kx_aR, kx_ln, Nat.reduceAdd, Option.toList, List.cons_append, List.nil_append, mW_o]
            repeat (simp only [lg_cmp_ge, lg_cmp_le, lg_cmp_gt, lg_cmp_lt, lg_cmp_eq]; try dsimp only [kx_wp, kx_step, kx_lI, kx_lL, kx_lA, kx_gl, kx_pI, kx_pL, kx_pR, kx_pA, kx_pV, kx_s1, kx_s2, kx_sl, kx_pre, kx_c2, kx_pl, kx_cmp, kx_oF, kx_eqN, kx_nil, kx_c1, kx_ft, kx_aI, kx_aL, kx_aR, kx_ln, Nat.reduceAdd, Option.toList, List.cons_append, List.nil_append, mW_o])
            repeat' apply And.intro
            all_goals try (first | with_reducible assumption | (with_reducible refine ck_nzI ?_; simp; done) | (with_reducible refine ck_nzL ?_; simp; done) | (with_reducible refine vp_in_nI ?_ ?_ <;> first | omega | decide) | (with_reducible refine Nat.le_of_ble_eq_true ?_; rfl) | omega)
            first | exact j61a _ (by simp only [ck_isP, ze5, ze13, ze21, ze29, eq_true ze37, ↓reduceIte]) | exact j61b _ ze5 ze13 ze21 ze29 ze37 ze45 ze53
          · intro zc37
            have ze37 := zc37
            refine hB bX11_isPart_40 _ _ _ _ _ _ _ kX11_isPart_40 ?_
            dsimp only [bX11_isPart_40, kx_wp, kx_step, kx_lI, kx_lL, kx_lA, kx_gl, kx_pI, kx_pL, kx_pR, kx_pA, kx_pV, kx_s1, kx_s2, kx_sl, kx_pre, kx_c2, kx_pl, kx_cmp, kx_oF, kx_eqN, kx_nil, kx_c1, kx_ft, kx_aI, kx_aL, kx_aR, kx_ln, Nat.reduceAdd, Option.toList, List.cons_append, List.nil_append, mW_o]
            repeat (simp only [lg_cmp_ge, lg_cmp_le, lg_cmp_gt, lg_cmp_lt, lg_cmp_eq]; try dsimp only [kx_wp, kx_step, kx_lI, kx_lL, kx_lA, kx_gl, kx_pI, kx_pL, kx_pR, kx_pA, kx_pV, kx_s1, kx_s2, kx_sl, kx_pre, kx_c2, kx_pl, kx_cmp, kx_oF, kx_eqN, kx_nil, kx_c1, kx_ft, kx_aI, kx_aL, kx_aR, kx_ln, Nat.reduceAdd, Option.toList, List.cons_append, List.nil_append, mW_o])
            repeat' apply And.intro
            all_goals try (first | with_reducible assumption | (with_reducible refine ck_nzI ?_; simp; done) | (with_reducible refine ck_nzL ?_; simp; done) | (with_reducible refine vp_in_nI ?_ ?_ <;> first | omega | decide) | (with_reducible refine Nat.le_of_ble_eq_true ?_; rfl) | omega)
            · intro zc45
              have ze45 := zc45
              refine hB bX11_isPart_56 _ _ _ _ _ _ _ kX11_isPart_56 ?_
              dsimp only [bX11_isPart_56, kx_wp, kx_step, kx_lI, kx_lL, kx_lA, kx_gl, kx_pI, kx_pL, kx_pR, kx_pA, kx_pV, kx_s1, kx_s2, kx_sl, kx_pre, kx_c2, kx_pl, kx_cmp, kx_oF, kx_eqN, kx_nil, kx_c1, kx_ft, kx_aI, kx_aL, kx_aR, kx_ln, Nat.reduceAdd, Option.toList, List.cons_append, List.nil_append, mW_o]
              repeat (simp only [lg_cmp_ge, lg_cmp_le, lg_cmp_gt, lg_cmp_lt, lg_cmp_eq]; try dsimp only [kx_wp, kx_step, kx_lI, kx_lL, kx_lA, kx_gl, kx_pI, kx_pL, kx_pR, kx_pA, kx_pV, kx_s1, kx_s2, kx_sl, kx_pre, kx_c2, kx_pl, kx_cmp, kx_oF, kx_eqN, kx_nil, kx_c1, kx_ft, kx_aI, kx_aL, kx_aR, kx_ln, Nat.reduceAdd, Option.toList, List.cons_append, List.nil_append, mW_o])
              repeat' apply And.intro
              all_goals try (first | with_reducible assumption | (with_reducible refine ck_nzI ?_; simp; done) | (with_reducible refine ck_nzL ?_; simp; done) | (with_reducible refine vp_in_nI ?_ ?_ <;> first | omega | decide) | (with_reducible refine Nat.le_of_ble_eq_true ?_; rfl) | omega)
              first | exact j61a _ (by simp only [ck_isP, ze5, ze13, ze21, ze29, ze37, eq_true ze45, ↓reduceIte]) | exact j61b _ ze5 ze13 ze21 ze29 ze37 ze45 ze53
            · intro zc45
              have ze45 := zc45
              refine hB bX11_isPart_48 _ _ _ _ _ _ _ kX11_isPart_48 ?_
              dsimp only [bX11_isPart_48, kx_wp, kx_step, kx_lI, kx_lL, kx_lA, kx_gl, kx_pI, kx_pL, kx_pR, kx_pA, kx_pV, kx_s1, kx_s2, kx_sl, kx_pre, kx_c2, kx_pl, kx_cmp, kx_oF, kx_eqN, kx_nil, kx_c1, kx_ft, kx_aI, kx_aL, kx_aR, kx_ln, Nat.reduceAdd, Option.toList, List.cons_append, List.nil_append, mW_o]
              repeat (simp only [lg_cmp_ge, lg_cmp_le, lg_cmp_gt, lg_cmp_lt, lg_cmp_eq]; try dsimp only [kx_wp, kx_step, kx_lI, kx_lL, kx_lA, kx_gl, kx_pI, kx_pL, kx_pR, kx_pA, kx_pV, kx_s1, kx_s2, kx_sl, kx_pre, kx_c2, kx_pl, kx_cmp, kx_oF, kx_eqN, kx_nil, kx_c1, kx_ft, kx_aI, kx_aL, kx_aR, kx_ln, Nat.reduceAdd, Option.toList, List.cons_append, List.nil_append, mW_o])
              repeat' apply And.intro
              all_goals try (first | with_reducible assumption | (with_reducible refine ck_nzI ?_; simp; done) | (with_reducible refine ck_nzL ?_; simp; done) | (with_reducible refine vp_in_nI ?_ ?_ <;> first | omega | decide) | (with_reducible refine Nat.le_of_ble_eq_true ?_; rfl) | omega)
              · intro zc53
                have ze53 := zc53
                refine hB bX11_isPart_60 _ _ _ _ _ _ _ kX11_isPart_60 ?_
                dsimp only [bX11_isPart_60, kx_wp, kx_step, kx_lI, kx_lL, kx_lA, kx_gl, kx_pI, kx_pL, kx_pR, kx_pA, kx_pV, kx_s1, kx_s2, kx_sl, kx_pre, kx_c2, kx_pl, kx_cmp, kx_oF, kx_eqN, kx_nil, kx_c1, kx_ft, kx_aI, kx_aL, kx_aR, kx_ln, Nat.reduceAdd, Option.toList, List.cons_append, List.nil_append, mW_o]
                repeat (simp only [lg_cmp_ge, lg_cmp_le, lg_cmp_gt, lg_cmp_lt, lg_cmp_eq]; try dsimp only [kx_wp, kx_step, kx_lI, kx_lL, kx_lA, kx_gl, kx_pI, kx_pL, kx_pR, kx_pA, kx_pV, kx_s1, kx_s2, kx_sl, kx_pre, kx_c2, kx_pl, kx_cmp, kx_oF, kx_eqN, kx_nil, kx_c1, kx_ft, kx_aI, kx_aL, kx_aR, kx_ln, Nat.reduceAdd, Option.toList, List.cons_append, List.nil_append, mW_o])
                repeat' apply And.intro
                all_goals try (first | with_reducible assumption | (with_reducible refine ck_nzI ?_; simp; done) | (with_reducible refine ck_nzL ?_; simp; done) | (with_reducible refine vp_in_nI ?_ ?_ <;> first | omega | decide) | (with_reducible refine Nat.le_of_ble_eq_true ?_; rfl) | omega)
                first | exact j61a _ (by simp only [ck_isP, ze5, ze13, ze21, ze29, ze37, ze45, ze53, ↓reduceIte]) | exact j61b _ ze5 ze13 ze21 ze29 ze37 ze45 ze53
              · intro zc53
                with_reducible first | have ze53 := Decidable.not_not.mp zc53 | have ze53 := zc53
                refine hB bX11_isPart_56 _ _ _ _ _ _ _ kX11_isPart_56 ?_
                dsimp only [bX11_isPart_56, kx_wp, kx_step, kx_lI, kx_lL, kx_lA, kx_gl, kx_pI, kx_pL, kx_pR, kx_pA, kx_pV, kx_s1, kx_s2, kx_sl, kx_pre, kx_c2, kx_pl, kx_cmp, kx_oF, kx_eqN, kx_nil, kx_c1, kx_ft, kx_aI, kx_aL, kx_aR, kx_ln, Nat.reduceAdd, Option.toList, List.cons_append, List.nil_append, mW_o]
                repeat (simp only [lg_cmp_ge, lg_cmp_le, lg_cmp_gt, lg_cmp_lt, lg_cmp_eq]; try dsimp only [kx_wp, kx_step, kx_lI, kx_lL, kx_lA, kx_gl, kx_pI, kx_pL, kx_pR, kx_pA, kx_pV, kx_s1, kx_s2, kx_sl, kx_pre, kx_c2, kx_pl, kx_cmp, kx_oF, kx_eqN, kx_nil, kx_c1, kx_ft, kx_aI, kx_aL, kx_aR, kx_ln, Nat.reduceAdd, Option.toList, List.cons_append, List.nil_append, mW_o])
                repeat' apply And.intro
                all_goals try (first | with_reducible assumption | (with_reducible refine ck_nzI ?_; simp; done) | (with_reducible refine ck_nzL ?_; simp; done) | (with_reducible refine vp_in_nI ?_ ?_ <;> first | omega | decide) | (with_reducible refine Nat.le_of_ble_eq_true ?_; rfl) | omega)
                first | exact j61a _ (by simp only [ck_isP, ze5, ze13, ze21, ze29, ze37, ze45, eq_true ze53, ↓reduceIte]) | exact j61b _ ze5 ze13 ze21 ze29 ze37 ze45 ze53

def bX11_isMore_0 : List kx_O := [(.aload_n 0, 0, 0, 0, .null)]
theorem kX11_isMore_0 : kx_oks kxL_X11 false cX11_isMore 0 bX11_isMore_0 = true := by decide +kernel
def bX11_isMore_4 : List kx_O := [(.pop, 0, 0, 0, .null), (.aload_n 0, 0, 0, 0, .null), (.getfield 198, 11, 7, 0, .null), (.aload_n 0, 0, 0, 0, .null), (.getfield 201, 11, 6, 0, .null), (.if_icmp .ge 7, 20, 0, 0, .null)]
theorem kX11_isMore_4 : kx_oks kxL_X11 false cX11_isMore 4 bX11_isMore_4 = true := by decide +kernel
def bX11_isMore_16 : List kx_O := [(.iconst 1, 0, 0, 0, .int 1), (.goto 4, 21, 0, 0, .null)]
theorem kX11_isMore_16 : kx_oks kxL_X11 false cX11_isMore 16 bX11_isMore_16 = true := by decide +kernel
def bX11_isMore_20 : List kx_O := [(.iconst 0, 0, 0, 0, .int 0)]
theorem kX11_isMore_20 : kx_oks kxL_X11 false cX11_isMore 20 bX11_isMore_20 = true := by decide +kernel
def bX11_isMore_21 : List kx_O := [(.ireturn, 0, 0, 0, .null)]
theorem kX11_isMore_21 : kx_oks kxL_X11 false cX11_isMore 21 bX11_isMore_21 = true := by decide +kernel
theorem dX11_isMore_1 : decode cX11_isMore 1 = .ok (.invokevirtual 204, 3) := by decide +kernel
set_option maxRecDepth 100000 in
set_option maxHeartbeats 4000000 in
theorem ct_X11_isMore (l : Launch) (G : kx_G) {M : Nat → Int32} {A : Nat → Nat → Int32} {L : Nat → Nat → Int64} {R : kx_P} {sz : Nat} {n : Nat} (h6 : M 6 = nI n) (hn : n ≤ 400) {a c q w : Nat} {k o h : Int32} {C N t e : Nat → Int32} (ha : a ≤ n)  : kx_M l G sX11_isMore 2 0 0 [.ref 93] (mW (ck_pM (ck_qM M (q) (w) (h)) (a) (-1) (k) (o) (c)) (ck_pA (ck_qA A (t) (e)) (C) (N)) L R) sz (some (.int (if ck_sk (A 95) n a < n then 1 else 0))) (mW (ck_pM (ck_qM M (q) (w) (h)) (ck_sk (A 95) n a) (-1) (k) (o) (c)) (ck_pA (ck_qA A (t) (e)) (C) (N)) L R) sz := by
  have zsk := ck_sk_le (A 95) ha
  refine kx_mk kx_tab kxLok_X11 (ini := false) [some (.ref 93)] ⟨by decide, rfl, by decide, by omega⟩ (by split <;> first | exact Or.inl rfl | exact Or.inr rfl) rfl rfl (fun g hB hC => ?_)
  by_cases hlt : ck_sk (A 95) n a < n
  · refine hB bX11_isMore_0 _ _ _ _ _ _ _ kX11_isMore_0 ?_
    dsimp only [bX11_isMore_0, kx_wp, kx_step, kx_lI, kx_lL, kx_lA, kx_gl, kx_pI, kx_pL, kx_pR, kx_pA, kx_pV, kx_s1, kx_s2, kx_sl, kx_pre, kx_c2, kx_pl, kx_cmp, kx_oF, kx_eqN, kx_nil, kx_c1, kx_ft, kx_aI, kx_aL, kx_aR, kx_ln, Nat.reduceAdd, Option.toList, List.cons_append, List.nil_append, mW_o, mf_7, mf_6]
    repeat (simp only [ck_p6, ck_p7, ck_p8, ck_p10, ck_p11, ck_p12, ck_p13, ck_p15, h6, nI_1, ck_pu7, ck_pu10, ck_pu11, ck_pu12, ck_pu13, ck_pu15, ck_pa95, ck_pa96, ck_pa97, ck_pa98, ck_pa99, ck_pem, ck_pau96, ck_pau99, va_us, va_upn, ne_eq, Nat.reduceEqDiff, not_false_eq_true, ck_q6, ck_q10, ck_q13, ck_q15, ck_qa95, ck_qa96, ck_qa99, ck_qu10, ck_qu13, ck_qu15, ck_qau96, ck_qau99, ck_qu13z, ck_qu10z, ck_pu12z, ck_pu7z, show (0 : Int32).toNatClampNeg = 0 from rfl, show (1 : Int32).toNatClampNeg = 1 from rfl, show (2 : Int32).toNatClampNeg = 2 from rfl, show (3 : Int32).toNatClampNeg = 3 from rfl, show (4 : Int32).toNatClampNeg = 4 from rfl, show (5 : Int32).toNatClampNeg = 5 from rfl, show (10 : Int32).toNatClampNeg = 10 from rfl, show (11 : Int32).toNatClampNeg = 11 from rfl, show (12 : Int32).toNatClampNeg = 12 from rfl, show (13 : Int32).toNatClampNeg = 13 from rfl, show (14 : Int32).toNatClampNeg = 14 from rfl, show (15 : Int32).toNatClampNeg = 15 from rfl]; try dsimp only [kx_wp, kx_step, kx_lI, kx_lL, kx_lA, kx_gl, kx_pI, kx_pL, kx_pR, kx_pA, kx_pV, kx_s1, kx_s2, kx_sl, kx_pre, kx_c2, kx_pl, kx_cmp, kx_oF, kx_eqN, kx_nil, kx_c1, kx_ft, kx_aI, kx_aL, kx_aR, kx_ln, Nat.reduceAdd, Option.toList, List.cons_append, List.nil_append, mW_o, mf_7, mf_6])
    repeat' apply And.intro
    all_goals try (first | with_reducible assumption | (with_reducible refine ck_nzI ?_; simp; done) | (with_reducible refine ck_nzL ?_; simp; done) | (with_reducible refine vp_in_nI ?_ ?_ <;> first | omega | decide) | (with_reducible refine Nat.le_of_ble_eq_true ?_; rfl) | omega | (unfold vp_in; decide) | exact Or.inl True.intro | exact Or.inr True.intro | exact Or.inl rfl | exact Or.inr rfl)
    refine hC.1 204 _ _ _ _ _ _ _ 11 _ _ _ _ _ _ _ _ _ _ _ _ lX11_204 (ct_X11_here l G (M := ck_qM M q w h) (A := ck_qA A t e) h6 hn ha) ⟨by decide, rfl⟩ (mW_o) rfl rfl (Nat.le_of_ble_eq_true rfl) (by decide) (by decide) (by omega) (by omega) dX11_isMore_1 ?_
    refine hB bX11_isMore_4 _ _ _ _ _ _ _ kX11_isMore_4 ?_
    dsimp only [bX11_isMore_4, kx_wp, kx_step, kx_lI, kx_lL, kx_lA, kx_gl, kx_pI, kx_pL, kx_pR, kx_pA, kx_pV, kx_s1, kx_s2, kx_sl, kx_pre, kx_c2, kx_pl, kx_cmp, kx_oF, kx_eqN, kx_nil, kx_c1, kx_ft, kx_aI, kx_aL, kx_aR, kx_ln, Nat.reduceAdd, Option.toList, List.cons_append, List.nil_append, mW_o, mf_7, mf_6]
    repeat (simp only [ck_p6, ck_p7, ck_p8, ck_p10, ck_p11, ck_p12, ck_p13, ck_p15, h6, nI_1, ck_pu7, ck_pu10, ck_pu11, ck_pu12, ck_pu13, ck_pu15, ck_pa95, ck_pa96, ck_pa97, ck_pa98, ck_pa99, ck_pem, ck_pau96, ck_pau99, va_us, va_upn, ne_eq, Nat.reduceEqDiff, not_false_eq_true, ck_q6, ck_q10, ck_q13, ck_q15, ck_qa95, ck_qa96, ck_qa99, ck_qu10, ck_qu13, ck_qu15, ck_qau96, ck_qau99, ck_qu13z, ck_qu10z, ck_pu12z, ck_pu7z, show (0 : Int32).toNatClampNeg = 0 from rfl, show (1 : Int32).toNatClampNeg = 1 from rfl, show (2 : Int32).toNatClampNeg = 2 from rfl, show (3 : Int32).toNatClampNeg = 3 from rfl, show (4 : Int32).toNatClampNeg = 4 from rfl, show (5 : Int32).toNatClampNeg = 5 from rfl, show (10 : Int32).toNatClampNeg = 10 from rfl, show (11 : Int32).toNatClampNeg = 11 from rfl, show (12 : Int32).toNatClampNeg = 12 from rfl, show (13 : Int32).toNatClampNeg = 13 from rfl, show (14 : Int32).toNatClampNeg = 14 from rfl, show (15 : Int32).toNatClampNeg = 15 from rfl]; try dsimp only [kx_wp, kx_step, kx_lI, kx_lL, kx_lA, kx_gl, kx_pI, kx_pL, kx_pR, kx_pA, kx_pV, kx_s1, kx_s2, kx_sl, kx_pre, kx_c2, kx_pl, kx_cmp, kx_oF, kx_eqN, kx_nil, kx_c1, kx_ft, kx_aI, kx_aL, kx_aR, kx_ln, Nat.reduceAdd, Option.toList, List.cons_append, List.nil_append, mW_o, mf_7, mf_6])
    repeat' apply And.intro
    all_goals try (first | with_reducible assumption | (with_reducible refine ck_nzI ?_; simp; done) | (with_reducible refine ck_nzL ?_; simp; done) | (with_reducible refine vp_in_nI ?_ ?_ <;> first | omega | decide) | (with_reducible refine Nat.le_of_ble_eq_true ?_; rfl) | omega | (unfold vp_in; decide) | exact Or.inl True.intro | exact Or.inr True.intro | exact Or.inl rfl | exact Or.inr rfl)
    · intro zc13
      first | exact absurd rfl zc13 | exact absurd zc13 (by decide) | exact absurd (by decide) zc13 | (exfalso; first | exact absurd zc13 (by first | (simp only [nI_leI (show n < 2 ^ 31 by omega) (show ck_sk (A 95) n a < 2 ^ 31 by omega)]; omega) | (simp only [nI_leI (show n < 2 ^ 31 by omega) (show ck_sk (A 95) n a < 2 ^ 31 by omega), Decidable.not_not]; omega))) | (exfalso; simp_all; done)
    · intro zc13
      with_reducible first | have ze13 := Int32.not_le.mp zc13 | have ze13 := zc13
      refine hB bX11_isMore_16 _ _ _ _ _ _ _ kX11_isMore_16 ?_
      dsimp only [bX11_isMore_16, kx_wp, kx_step, kx_lI, kx_lL, kx_lA, kx_gl, kx_pI, kx_pL, kx_pR, kx_pA, kx_pV, kx_s1, kx_s2, kx_sl, kx_pre, kx_c2, kx_pl, kx_cmp, kx_oF, kx_eqN, kx_nil, kx_c1, kx_ft, kx_aI, kx_aL, kx_aR, kx_ln, Nat.reduceAdd, Option.toList, List.cons_append, List.nil_append, mW_o, mf_7, mf_6]
      repeat (simp only [ck_p6, ck_p7, ck_p8, ck_p10, ck_p11, ck_p12, ck_p13, ck_p15, h6, nI_1, ck_pu7, ck_pu10, ck_pu11, ck_pu12, ck_pu13, ck_pu15, ck_pa95, ck_pa96, ck_pa97, ck_pa98, ck_pa99, ck_pem, ck_pau96, ck_pau99, va_us, va_upn, ne_eq, Nat.reduceEqDiff, not_false_eq_true, ck_q6, ck_q10, ck_q13, ck_q15, ck_qa95, ck_qa96, ck_qa99, ck_qu10, ck_qu13, ck_qu15, ck_qau96, ck_qau99, ck_qu13z, ck_qu10z, ck_pu12z, ck_pu7z, show (0 : Int32).toNatClampNeg = 0 from rfl, show (1 : Int32).toNatClampNeg = 1 from rfl, show (2 : Int32).toNatClampNeg = 2 from rfl, show (3 : Int32).toNatClampNeg = 3 from rfl, show (4 : Int32).toNatClampNeg = 4 from rfl, show (5 : Int32).toNatClampNeg = 5 from rfl, show (10 : Int32).toNatClampNeg = 10 from rfl, show (11 : Int32).toNatClampNeg = 11 from rfl, show (12 : Int32).toNatClampNeg = 12 from rfl, show (13 : Int32).toNatClampNeg = 13 from rfl, show (14 : Int32).toNatClampNeg = 14 from rfl, show (15 : Int32).toNatClampNeg = 15 from rfl]; try dsimp only [kx_wp, kx_step, kx_lI, kx_lL, kx_lA, kx_gl, kx_pI, kx_pL, kx_pR, kx_pA, kx_pV, kx_s1, kx_s2, kx_sl, kx_pre, kx_c2, kx_pl, kx_cmp, kx_oF, kx_eqN, kx_nil, kx_c1, kx_ft, kx_aI, kx_aL, kx_aR, kx_ln, Nat.reduceAdd, Option.toList, List.cons_append, List.nil_append, mW_o, mf_7, mf_6])
      repeat' apply And.intro
      all_goals try (first | with_reducible assumption | (with_reducible refine ck_nzI ?_; simp; done) | (with_reducible refine ck_nzL ?_; simp; done) | (with_reducible refine vp_in_nI ?_ ?_ <;> first | omega | decide) | (with_reducible refine Nat.le_of_ble_eq_true ?_; rfl) | omega | (unfold vp_in; decide) | exact Or.inl True.intro | exact Or.inr True.intro | exact Or.inl rfl | exact Or.inr rfl)
      refine hB bX11_isMore_21 _ _ _ _ _ _ _ kX11_isMore_21 ?_
      dsimp only [bX11_isMore_21, kx_wp, kx_step, kx_lI, kx_lL, kx_lA, kx_gl, kx_pI, kx_pL, kx_pR, kx_pA, kx_pV, kx_s1, kx_s2, kx_sl, kx_pre, kx_c2, kx_pl, kx_cmp, kx_oF, kx_eqN, kx_nil, kx_c1, kx_ft, kx_aI, kx_aL, kx_aR, kx_ln, Nat.reduceAdd, Option.toList, List.cons_append, List.nil_append, mW_o, mf_7, mf_6]
      repeat (simp only [ck_p6, ck_p7, ck_p8, ck_p10, ck_p11, ck_p12, ck_p13, ck_p15, h6, nI_1, ck_pu7, ck_pu10, ck_pu11, ck_pu12, ck_pu13, ck_pu15, ck_pa95, ck_pa96, ck_pa97, ck_pa98, ck_pa99, ck_pem, ck_pau96, ck_pau99, va_us, va_upn, ne_eq, Nat.reduceEqDiff, not_false_eq_true, ck_q6, ck_q10, ck_q13, ck_q15, ck_qa95, ck_qa96, ck_qa99, ck_qu10, ck_qu13, ck_qu15, ck_qau96, ck_qau99, ck_qu13z, ck_qu10z, ck_pu12z, ck_pu7z, show (0 : Int32).toNatClampNeg = 0 from rfl, show (1 : Int32).toNatClampNeg = 1 from rfl, show (2 : Int32).toNatClampNeg = 2 from rfl, show (3 : Int32).toNatClampNeg = 3 from rfl, show (4 : Int32).toNatClampNeg = 4 from rfl, show (5 : Int32).toNatClampNeg = 5 from rfl, show (10 : Int32).toNatClampNeg = 10 from rfl, show (11 : Int32).toNatClampNeg = 11 from rfl, show (12 : Int32).toNatClampNeg = 12 from rfl, show (13 : Int32).toNatClampNeg = 13 from rfl, show (14 : Int32).toNatClampNeg = 14 from rfl, show (15 : Int32).toNatClampNeg = 15 from rfl]; try dsimp only [kx_wp, kx_step, kx_lI, kx_lL, kx_lA, kx_gl, kx_pI, kx_pL, kx_pR, kx_pA, kx_pV, kx_s1, kx_s2, kx_sl, kx_pre, kx_c2, kx_pl, kx_cmp, kx_oF, kx_eqN, kx_nil, kx_c1, kx_ft, kx_aI, kx_aL, kx_aR, kx_ln, Nat.reduceAdd, Option.toList, List.cons_append, List.nil_append, mW_o, mf_7, mf_6])
      all_goals (repeat' apply And.intro)
      all_goals ((try clear hB hC); first | exact True.intro | (rw [if_pos hlt]; done) | (rw [if_pos hlt]) | with_reducible rfl)
  · refine hB bX11_isMore_0 _ _ _ _ _ _ _ kX11_isMore_0 ?_
    dsimp only [bX11_isMore_0, kx_wp, kx_step, kx_lI, kx_lL, kx_lA, kx_gl, kx_pI, kx_pL, kx_pR, kx_pA, kx_pV, kx_s1, kx_s2, kx_sl, kx_pre, kx_c2, kx_pl, kx_cmp, kx_oF, kx_eqN, kx_nil, kx_c1, kx_ft, kx_aI, kx_aL, kx_aR, kx_ln, Nat.reduceAdd, Option.toList, List.cons_append, List.nil_append, mW_o, mf_7, mf_6]
    repeat (simp only [ck_p6, ck_p7, ck_p8, ck_p10, ck_p11, ck_p12, ck_p13, ck_p15, h6, nI_1, ck_pu7, ck_pu10, ck_pu11, ck_pu12, ck_pu13, ck_pu15, ck_pa95, ck_pa96, ck_pa97, ck_pa98, ck_pa99, ck_pem, ck_pau96, ck_pau99, va_us, va_upn, ne_eq, Nat.reduceEqDiff, not_false_eq_true, ck_q6, ck_q10, ck_q13, ck_q15, ck_qa95, ck_qa96, ck_qa99, ck_qu10, ck_qu13, ck_qu15, ck_qau96, ck_qau99, ck_qu13z, ck_qu10z, ck_pu12z, ck_pu7z, show (0 : Int32).toNatClampNeg = 0 from rfl, show (1 : Int32).toNatClampNeg = 1 from rfl, show (2 : Int32).toNatClampNeg = 2 from rfl, show (3 : Int32).toNatClampNeg = 3 from rfl, show (4 : Int32).toNatClampNeg = 4 from rfl, show (5 : Int32).toNatClampNeg = 5 from rfl, show (10 : Int32).toNatClampNeg = 10 from rfl, show (11 : Int32).toNatClampNeg = 11 from rfl, show (12 : Int32).toNatClampNeg = 12 from rfl, show (13 : Int32).toNatClampNeg = 13 from rfl, show (14 : Int32).toNatClampNeg = 14 from rfl, show (15 : Int32).toNatClampNeg = 15 from rfl]; try dsimp only [kx_wp, kx_step, kx_lI, kx_lL, kx_lA, kx_gl, kx_pI, kx_pL, kx_pR, kx_pA, kx_pV, kx_s1, kx_s2, kx_sl, kx_pre, kx_c2, kx_pl, kx_cmp, kx_oF, kx_eqN, kx_nil, kx_c1, kx_ft, kx_aI, kx_aL, kx_aR, kx_ln, Nat.reduceAdd, Option.toList, List.cons_append, List.nil_append, mW_o, mf_7, mf_6])
    repeat' apply And.intro
    all_goals try (first | with_reducible assumption | (with_reducible refine ck_nzI ?_; simp; done) | (with_reducible refine ck_nzL ?_; simp; done) | (with_reducible refine vp_in_nI ?_ ?_ <;> first | omega | decide) | (with_reducible refine Nat.le_of_ble_eq_true ?_; rfl) | omega | (unfold vp_in; decide) | exact Or.inl True.intro | exact Or.inr True.intro | exact Or.inl rfl | exact Or.inr rfl)
    refine hC.1 204 _ _ _ _ _ _ _ 11 _ _ _ _ _ _ _ _ _ _ _ _ lX11_204 (ct_X11_here l G (M := ck_qM M q w h) (A := ck_qA A t e) h6 hn ha) ⟨by decide, rfl⟩ (mW_o) rfl rfl (Nat.le_of_ble_eq_true rfl) (by decide) (by decide) (by omega) (by omega) dX11_isMore_1 ?_
    refine hB bX11_isMore_4 _ _ _ _ _ _ _ kX11_isMore_4 ?_
    dsimp only [bX11_isMore_4, kx_wp, kx_step, kx_lI, kx_lL, kx_lA, kx_gl, kx_pI, kx_pL, kx_pR, kx_pA, kx_pV, kx_s1, kx_s2, kx_sl, kx_pre, kx_c2, kx_pl, kx_cmp, kx_oF, kx_eqN, kx_nil, kx_c1, kx_ft, kx_aI, kx_aL, kx_aR, kx_ln, Nat.reduceAdd, Option.toList, List.cons_append, List.nil_append, mW_o, mf_7, mf_6]
    repeat (simp only [ck_p6, ck_p7, ck_p8, ck_p10, ck_p11, ck_p12, ck_p13, ck_p15, h6, nI_1, ck_pu7, ck_pu10, ck_pu11, ck_pu12, ck_pu13, ck_pu15, ck_pa95, ck_pa96, ck_pa97, ck_pa98, ck_pa99, ck_pem, ck_pau96, ck_pau99, va_us, va_upn, ne_eq, Nat.reduceEqDiff, not_false_eq_true, ck_q6, ck_q10, ck_q13, ck_q15, ck_qa95, ck_qa96, ck_qa99, ck_qu10, ck_qu13, ck_qu15, ck_qau96, ck_qau99, ck_qu13z, ck_qu10z, ck_pu12z, ck_pu7z, show (0 : Int32).toNatClampNeg = 0 from rfl, show (1 : Int32).toNatClampNeg = 1 from rfl, show (2 : Int32).toNatClampNeg = 2 from rfl, show (3 : Int32).toNatClampNeg = 3 from rfl, show (4 : Int32).toNatClampNeg = 4 from rfl, show (5 : Int32).toNatClampNeg = 5 from rfl, show (10 : Int32).toNatClampNeg = 10 from rfl, show (11 : Int32).toNatClampNeg = 11 from rfl, show (12 : Int32).toNatClampNeg = 12 from rfl, show (13 : Int32).toNatClampNeg = 13 from rfl, show (14 : Int32).toNatClampNeg = 14 from rfl, show (15 : Int32).toNatClampNeg = 15 from rfl]; try dsimp only [kx_wp, kx_step, kx_lI, kx_lL, kx_lA, kx_gl, kx_pI, kx_pL, kx_pR, kx_pA, kx_pV, kx_s1, kx_s2, kx_sl, kx_pre, kx_c2, kx_pl, kx_cmp, kx_oF, kx_eqN, kx_nil, kx_c1, kx_ft, kx_aI, kx_aL, kx_aR, kx_ln, Nat.reduceAdd, Option.toList, List.cons_append, List.nil_append, mW_o, mf_7, mf_6])
    repeat' apply And.intro
    all_goals try (first | with_reducible assumption | (with_reducible refine ck_nzI ?_; simp; done) | (with_reducible refine ck_nzL ?_; simp; done) | (with_reducible refine vp_in_nI ?_ ?_ <;> first | omega | decide) | (with_reducible refine Nat.le_of_ble_eq_true ?_; rfl) | omega | (unfold vp_in; decide) | exact Or.inl True.intro | exact Or.inr True.intro | exact Or.inl rfl | exact Or.inr rfl)
    · intro zc13
      with_reducible first | have ze13 := Int32.not_lt.mpr zc13 | have ze13 := zc13
      refine hB bX11_isMore_20 _ _ _ _ _ _ _ kX11_isMore_20 ?_
      dsimp only [bX11_isMore_20, kx_wp, kx_step, kx_lI, kx_lL, kx_lA, kx_gl, kx_pI, kx_pL, kx_pR, kx_pA, kx_pV, kx_s1, kx_s2, kx_sl, kx_pre, kx_c2, kx_pl, kx_cmp, kx_oF, kx_eqN, kx_nil, kx_c1, kx_ft, kx_aI, kx_aL, kx_aR, kx_ln, Nat.reduceAdd, Option.toList, List.cons_append, List.nil_append, mW_o, mf_7, mf_6]
      repeat (simp only [ck_p6, ck_p7, ck_p8, ck_p10, ck_p11, ck_p12, ck_p13, ck_p15, h6, nI_1, ck_pu7, ck_pu10, ck_pu11, ck_pu12, ck_pu13, ck_pu15, ck_pa95, ck_pa96, ck_pa97, ck_pa98, ck_pa99, ck_pem, ck_pau96, ck_pau99, va_us, va_upn, ne_eq, Nat.reduceEqDiff, not_false_eq_true, ck_q6, ck_q10, ck_q13, ck_q15, ck_qa95, ck_qa96, ck_qa99, ck_qu10, ck_qu13, ck_qu15, ck_qau96, ck_qau99, ck_qu13z, ck_qu10z, ck_pu12z, ck_pu7z, show (0 : Int32).toNatClampNeg = 0 from rfl, show (1 : Int32).toNatClampNeg = 1 from rfl, show (2 : Int32).toNatClampNeg = 2 from rfl, show (3 : Int32).toNatClampNeg = 3 from rfl, show (4 : Int32).toNatClampNeg = 4 from rfl, show (5 : Int32).toNatClampNeg = 5 from rfl, show (10 : Int32).toNatClampNeg = 10 from rfl, show (11 : Int32).toNatClampNeg = 11 from rfl, show (12 : Int32).toNatClampNeg = 12 from rfl, show (13 : Int32).toNatClampNeg = 13 from rfl, show (14 : Int32).toNatClampNeg = 14 from rfl, show (15 : Int32).toNatClampNeg = 15 from rfl]; try dsimp only [kx_wp, kx_step, kx_lI, kx_lL, kx_lA, kx_gl, kx_pI, kx_pL, kx_pR, kx_pA, kx_pV, kx_s1, kx_s2, kx_sl, kx_pre, kx_c2, kx_pl, kx_cmp, kx_oF, kx_eqN, kx_nil, kx_c1, kx_ft, kx_aI, kx_aL, kx_aR, kx_ln, Nat.reduceAdd, Option.toList, List.cons_append, List.nil_append, mW_o, mf_7, mf_6])
      repeat' apply And.intro
      all_goals try (first | with_reducible assumption | (with_reducible refine ck_nzI ?_; simp; done) | (with_reducible refine ck_nzL ?_; simp; done) | (with_reducible refine vp_in_nI ?_ ?_ <;> first | omega | decide) | (with_reducible refine Nat.le_of_ble_eq_true ?_; rfl) | omega | (unfold vp_in; decide) | exact Or.inl True.intro | exact Or.inr True.intro | exact Or.inl rfl | exact Or.inr rfl)
      refine hB bX11_isMore_21 _ _ _ _ _ _ _ kX11_isMore_21 ?_
      dsimp only [bX11_isMore_21, kx_wp, kx_step, kx_lI, kx_lL, kx_lA, kx_gl, kx_pI, kx_pL, kx_pR, kx_pA, kx_pV, kx_s1, kx_s2, kx_sl, kx_pre, kx_c2, kx_pl, kx_cmp, kx_oF, kx_eqN, kx_nil, kx_c1, kx_ft, kx_aI, kx_aL, kx_aR, kx_ln, Nat.reduceAdd, Option.toList, List.cons_append, List.nil_append, mW_o, mf_7, mf_6]
      repeat (simp only [ck_p6, ck_p7, ck_p8, ck_p10, ck_p11, ck_p12, ck_p13, ck_p15, h6, nI_1, ck_pu7, ck_pu10, ck_pu11, ck_pu12, ck_pu13, ck_pu15, ck_pa95, ck_pa96, ck_pa97, ck_pa98, ck_pa99, ck_pem, ck_pau96, ck_pau99, va_us, va_upn, ne_eq, Nat.reduceEqDiff, not_false_eq_true, ck_q6, ck_q10, ck_q13, ck_q15, ck_qa95, ck_qa96, ck_qa99, ck_qu10, ck_qu13, ck_qu15, ck_qau96, ck_qau99, ck_qu13z, ck_qu10z, ck_pu12z, ck_pu7z, show (0 : Int32).toNatClampNeg = 0 from rfl, show (1 : Int32).toNatClampNeg = 1 from rfl, show (2 : Int32).toNatClampNeg = 2 from rfl, show (3 : Int32).toNatClampNeg = 3 from rfl, show (4 : Int32).toNatClampNeg = 4 from rfl, show (5 : Int32).toNatClampNeg = 5 from rfl, show (10 : Int32).toNatClampNeg = 10 from rfl, show (11 : Int32).toNatClampNeg = 11 from rfl, show (12 : Int32).toNatClampNeg = 12 from rfl, show (13 : Int32).toNatClampNeg = 13 from rfl, show (14 : Int32).toNatClampNeg = 14 from rfl, show (15 : Int32).toNatClampNeg = 15 from rfl]; try dsimp only [kx_wp, kx_step, kx_lI, kx_lL, kx_lA, kx_gl, kx_pI, kx_pL, kx_pR, kx_pA, kx_pV, kx_s1, kx_s2, kx_sl, kx_pre, kx_c2, kx_pl, kx_cmp, kx_oF, kx_eqN, kx_nil, kx_c1, kx_ft, kx_aI, kx_aL, kx_aR, kx_ln, Nat.reduceAdd, Option.toList, List.cons_append, List.nil_append, mW_o, mf_7, mf_6])
      all_goals (repeat' apply And.intro)
      all_goals ((try clear hB hC); first | exact True.intro | (rw [if_neg hlt]; done) | (rw [if_neg hlt]) | with_reducible rfl)
    · intro zc13
      first | exact absurd rfl zc13 | exact absurd zc13 (by decide) | exact absurd (by decide) zc13 | (exfalso; first | exact absurd zc13 (by first | (simp only [nI_leI (show n < 2 ^ 31 by omega) (show ck_sk (A 95) n a < 2 ^ 31 by omega)]; omega) | (simp only [nI_leI (show n < 2 ^ 31 by omega) (show ck_sk (A 95) n a < 2 ^ 31 by omega), Decidable.not_not]; omega))) | (exfalso; simp_all; done)


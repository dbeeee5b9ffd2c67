/-! printed by wip/whole/nD1.py: the law's methods that catch -/
theorem kxC_L : ∀ w ∈ [Cond.classLink RL 13 "java/lang/IllegalArgumentException", Cond.classLink RL 27 "java/util/NoSuchElementException", Cond.classLink RL 22 "java/lang/IllegalStateException", Cond.initialized RL], w ∈ kx_ws := kx_in_tbl [533, 1101, 953, 111] (by decide +kernel) (by decide +kernel)
/-- a value as the long that the law keeps -/
def cv64 (v : Value) : Int64 := match v with | .int x => x.toInt64 | .long x => x | _ => 0
def cPt (Po : Option Value → kx_P → Nat → Prop) : Option Value → kx_P → Nat → Prop := fun r P3 s3 => ∃ (v : Value) (P2 : kx_P) (go : Nat → Int64), Po (some v) P2 s3 ∧ r = some (.int 0) ∧ P2 143 = kL 1 go ∧ P3 = kx_set P2 143 (kL 1 (vp_updL go 0 (cv64 v)))
def cPx (P : kx_P) (sz : Nat) (cd : Int32) : Option Value → kx_P → Nat → Prop := fun r P3 s3 => r = some (.int cd) ∧ P3 = P ∧ sz ≤ s3

abbrev sL_warmth : kx_S := (yL_warmth, cL_warmth, 4, some .int)
abbrev hL_warmth : List (Nat × Nat × Nat × Nat) := [(0, 9, 12, 13)]
theorem kxW_L_warmth : ∀ w ∈ [Cond.methodLink RL 114 yL_warmth, Cond.static yL_warmth, Cond.codeWith yL_warmth cL_warmth 4 (some .int) hL_warmth], w ∈ kx_ws := kx_in_tbl [530, 531, 532] (by decide +kernel) (by decide +kernel)
theorem lL_114 : kx_lS9 RL 114 sL_warmth hL_warmth 3 := ⟨kx_at_l kxW_L_warmth 0 rfl, kx_at_l kxW_L_warmth 1 rfl, kx_at_l kxW_L_warmth 2 rfl, kx_at_l kxC_L 3 rfl, by decide +kernel, by decide +kernel, by decide +kernel⟩
def bL_warmth_0 : List kx_O := [(.aload_n 2, 2, 0, 0, .null), (.iconst 0, 0, 0, 0, .int 0), (.aload_n 0, 0, 0, 0, .null), (.iload_n 1, 1, 0, 0, .null)]
theorem kL_warmth_0 : kx_oks kxL_L false cL_warmth 0 bL_warmth_0 = true := by decide +kernel
def bL_warmth_7 : List kx_O := [(.i2l, 0, 0, 0, .null), (.lastore, 0, 0, 0, .null), (.goto 6, 15, 0, 0, .null)]
theorem kL_warmth_7 : kx_oks kxL_L false cL_warmth 7 bL_warmth_7 = true := by decide +kernel
def bL_warmth_12 : List kx_O := [(.astore_n 3, 3, 0, 0, .null), (.iconst 1, 0, 0, 0, .int 1), (.ireturn, 0, 0, 0, .null)]
theorem kL_warmth_12 : kx_oks kxL_L false cL_warmth 12 bL_warmth_12 = true := by decide +kernel
def bL_warmth_15 : List kx_O := [(.iconst 0, 0, 0, 0, .int 0), (.ireturn, 0, 0, 0, .null)]
theorem kL_warmth_15 : kx_oks kxL_L false cL_warmth 15 bL_warmth_15 = true := by decide +kernel
theorem dL_warmth_4 : decode cL_warmth 4 = .ok (.invokevirtual 7, 3) := by decide +kernel
set_option maxHeartbeats 4000000 in
theorem cw_warmth_t (l : Launch) (G : kx_G) {P : kx_P} {sz : Nat} {f : Nat → Value} (h64 : P 64 = kO 10 f) {xa : Int32} {d mc ms : Nat} {Po : Option Value → kx_P → Nat → Prop} (hM : kx_Mn l G sX10_warmth d mc ms (.ref 64 :: [.int xa]) P sz Po) (hp : ∀ r P2 s2, Po r P2 s2 → ∃ (v : Value) (go : Nat → Int64), r = some v ∧ cvT sX11_warmth v ∧ P2 143 = kL 1 go) : kx_Mw l G sL_warmth hL_warmth (d + 1) mc ms [.ref 64, .int xa, .ref 143] P sz (cPt Po) := by
  refine kx_mkw kx_tab kxLok_L [some (.ref 64), some (.int xa), some (.ref 143), none] ⟨by decide +kernel, rfl, by omega⟩ rfl (fun r P' s' h => by obtain ⟨v, P2, go, -, h, -⟩ := h; exact ⟨0, h⟩) rfl rfl (fun g hB hC hN hK => ?_)
  refine hB bL_warmth_0 _ _ _ _ _ _ _ kL_warmth_0 ?_
  dsimp only [bL_warmth_0, kx_wp, kx_step, kx_lI, kx_lL, kx_lA, kx_gl, kx_pI, kx_pL, kx_pR, kx_pA, kx_pV, kx_s1, kx_s2, kx_sl, kx_pre, kx_c2, kx_pl, kx_cmp, kx_oF, kx_eqN, kx_nil, kx_c1, kx_ft, kx_aI, kx_aL, kx_aR, kx_ln, Nat.reduceAdd, Option.toList, List.cons_append, List.nil_append]
  refine hN.1 7 _ _ _ _ _ _ _ 10 _ _ _ _ _ _ _ _ _ _ lL_7 hM ⟨by decide, rfl⟩ h64 rfl rfl (Nat.le_of_ble_eq_true rfl) (by omega) (by decide) (by omega) (by omega) dL_warmth_4 ?_
  intro r P2 s2 hP2
  obtain ⟨v, go, e1, e2, e3⟩ := hp r P2 s2 hP2
  subst e1
  obtain ⟨x, e4⟩ := e2.2 (by decide)
  subst e4
  dsimp only [Option.toList, List.cons_append, List.nil_append]
  refine hB bL_warmth_7 _ _ _ _ _ _ _ kL_warmth_7 ?_
  dsimp only [bL_warmth_7, kx_wp, kx_step, kx_lI, kx_lL, kx_lA, kx_gl, kx_pI, kx_pL, kx_pR, kx_pA, kx_pV, kx_s1, kx_s2, kx_sl, kx_pre, kx_c2, kx_pl, kx_cmp, kx_oF, kx_eqN, kx_nil, kx_c1, kx_ft, kx_aI, kx_aL, kx_aR, kx_ln, Nat.reduceAdd, Option.toList, List.cons_append, List.nil_append]
  simp only [e3]
  try dsimp only [kx_wp, kx_step, kx_lI, kx_lL, kx_lA, kx_gl, kx_pI, kx_pL, kx_pR, kx_pA, kx_pV, kx_s1, kx_s2, kx_sl, kx_pre, kx_c2, kx_pl, kx_cmp, kx_oF, kx_eqN, kx_nil, kx_c1, kx_ft, kx_aI, kx_aL, kx_aR, kx_ln, Nat.reduceAdd, Option.toList, List.cons_append, List.nil_append]
  refine ⟨by decide, by unfold vp_in; decide, ?_⟩
  refine hB bL_warmth_15 _ _ _ _ _ _ _ kL_warmth_15 ?_
  dsimp only [bL_warmth_15, kx_wp, kx_step, kx_lI, kx_lL, kx_lA, kx_gl, kx_pI, kx_pL, kx_pR, kx_pA, kx_pV, kx_s1, kx_s2, kx_sl, kx_pre, kx_c2, kx_pl, kx_cmp, kx_oF, kx_eqN, kx_nil, kx_c1, kx_ft, kx_aI, kx_aL, kx_aR, kx_ln, Nat.reduceAdd, Option.toList, List.cons_append, List.nil_append]
  exact ⟨_, P2, go, hP2, rfl, e3, rfl⟩

theorem dL_warmth_12 : decode cL_warmth 12 = .ok (.astore_n 3, 1) := by decide +kernel
theorem dL_warmth_13 : decode cL_warmth 13 = .ok (.iconst 1, 1) := by decide +kernel
theorem dL_warmth_14 : decode cL_warmth 14 = .ok (.ireturn, 1) := by decide +kernel
set_option maxHeartbeats 4000000 in
theorem cw_warmth_x0 (l : Launch) (G : kx_G) {P : kx_P} {sz : Nat} {f : Nat → Value} (h64 : P 64 = kO 10 f) {xa : Int32} {d : Nat} (hM : kx_X l G sX10_warmth d (.ref 64 :: [.int xa]) P sz "java/lang/IllegalArgumentException") : kx_Mw l G sL_warmth hL_warmth (d + 1) 1 6 [.ref 64, .int xa, .ref 143] P sz (cPx P sz 1) := by
  refine kx_mkw kx_tab kxLok_L [some (.ref 64), some (.int xa), some (.ref 143), none] ⟨by decide +kernel, rfl, by omega⟩ rfl (fun r P' s' h => ⟨_, h.1⟩) rfl rfl (fun g hB hC hN hK => ?_)
  refine hB bL_warmth_0 _ _ _ _ _ _ _ kL_warmth_0 ?_
  dsimp only [bL_warmth_0, kx_wp, kx_step, kx_lI, kx_lL, kx_lA, kx_gl, kx_pI, kx_pL, kx_pR, kx_pA, kx_pV, kx_s1, kx_s2, kx_sl, kx_pre, kx_c2, kx_pl, kx_cmp, kx_oF, kx_eqN, kx_nil, kx_c1, kx_ft, kx_aI, kx_aL, kx_aR, kx_ln, Nat.reduceAdd, Option.toList, List.cons_append, List.nil_append]
  exact hK 7 _ _ _ _ _ 10 _ [.int 0, .ref 143] _ _ _ _ _ "java/lang/IllegalArgumentException" [] [] (0, 9, 12, 13) 1 1 lL_7 hM ⟨by decide, rfl⟩ h64 rfl rfl (Nat.le_of_ble_eq_true rfl) (by omega) (by decide) (by decide) (by decide) dL_warmth_4 rfl (by decide) (by decide) (by decide) (kx_at_l kxC_L 0 rfl) (fun q h => by cases h) (Or.inl ⟨3, dL_warmth_12, Nat.le_of_ble_eq_true rfl, rfl⟩) dL_warmth_13 dL_warmth_14 (fun s2 hs => ⟨rfl, rfl, hs⟩)

abbrev sL_clock : kx_S := (yL_clock, cL_clock, 6, some .int)
abbrev hL_clock : List (Nat × Nat × Nat × Nat) := [(0, 12, 15, 13)]
theorem kxW_L_clock : ∀ w ∈ [Cond.methodLink RL 134 yL_clock, Cond.static yL_clock, Cond.codeWith yL_clock cL_clock 6 (some .int) hL_clock], w ∈ kx_ws := kx_in_tbl [608, 609, 610] (by decide +kernel) (by decide +kernel)
theorem lL_134 : kx_lS9 RL 134 sL_clock hL_clock 5 := ⟨kx_at_l kxW_L_clock 0 rfl, kx_at_l kxW_L_clock 1 rfl, kx_at_l kxW_L_clock 2 rfl, kx_at_l kxC_L 3 rfl, by decide +kernel, by decide +kernel, by decide +kernel⟩
def bL_clock_0 : List kx_O := [(.aload 4, 4, 0, 0, .null), (.iconst 0, 0, 0, 0, .int 0), (.aload_n 0, 0, 0, 0, .null), (.iload_n 1, 1, 0, 0, .null), (.iload_n 2, 2, 0, 0, .null), (.iload_n 3, 3, 0, 0, .null)]
theorem kL_clock_0 : kx_oks kxL_L false cL_clock 0 bL_clock_0 = true := by decide +kernel
def bL_clock_10 : List kx_O := [(.i2l, 0, 0, 0, .null), (.lastore, 0, 0, 0, .null), (.goto 7, 19, 0, 0, .null)]
theorem kL_clock_10 : kx_oks kxL_L false cL_clock 10 bL_clock_10 = true := by decide +kernel
def bL_clock_15 : List kx_O := [(.astore 5, 5, 0, 0, .null), (.iconst 1, 0, 0, 0, .int 1), (.ireturn, 0, 0, 0, .null)]
theorem kL_clock_15 : kx_oks kxL_L false cL_clock 15 bL_clock_15 = true := by decide +kernel
def bL_clock_19 : List kx_O := [(.iconst 0, 0, 0, 0, .int 0), (.ireturn, 0, 0, 0, .null)]
theorem kL_clock_19 : kx_oks kxL_L false cL_clock 19 bL_clock_19 = true := by decide +kernel
theorem dL_clock_7 : decode cL_clock 7 = .ok (.invokevirtual 15, 3) := by decide +kernel
set_option maxHeartbeats 4000000 in
theorem cw_clock_t (l : Launch) (G : kx_G) {P : kx_P} {sz : Nat} {f : Nat → Value} (h64 : P 64 = kO 10 f) {xa xb xc : Int32} {d mc ms : Nat} {Po : Option Value → kx_P → Nat → Prop} (hM : kx_Mn l G sX10_clock d mc ms (.ref 64 :: [.int xa, .int xb, .int xc]) P sz Po) (hp : ∀ r P2 s2, Po r P2 s2 → ∃ (v : Value) (go : Nat → Int64), r = some v ∧ cvT sX11_clock v ∧ P2 143 = kL 1 go) : kx_Mw l G sL_clock hL_clock (d + 1) mc ms [.ref 64, .int xa, .int xb, .int xc, .ref 143] P sz (cPt Po) := by
  refine kx_mkw kx_tab kxLok_L [some (.ref 64), some (.int xa), some (.int xb), some (.int xc), some (.ref 143), none] ⟨by decide +kernel, rfl, by omega⟩ rfl (fun r P' s' h => by obtain ⟨v, P2, go, -, h, -⟩ := h; exact ⟨0, h⟩) rfl rfl (fun g hB hC hN hK => ?_)
  refine hB bL_clock_0 _ _ _ _ _ _ _ kL_clock_0 ?_
  dsimp only [bL_clock_0, kx_wp, kx_step, kx_lI, kx_lL, kx_lA, kx_gl, kx_pI, kx_pL, kx_pR, kx_pA, kx_pV, kx_s1, kx_s2, kx_sl, kx_pre, kx_c2, kx_pl, kx_cmp, kx_oF, kx_eqN, kx_nil, kx_c1, kx_ft, kx_aI, kx_aL, kx_aR, kx_ln, Nat.reduceAdd, Option.toList, List.cons_append, List.nil_append]
  refine hN.1 15 _ _ _ _ _ _ _ 10 _ _ _ _ _ _ _ _ _ _ lL_15 hM ⟨by decide, rfl⟩ h64 rfl rfl (Nat.le_of_ble_eq_true rfl) (by omega) (by decide) (by omega) (by omega) dL_clock_7 ?_
  intro r P2 s2 hP2
  obtain ⟨v, go, e1, e2, e3⟩ := hp r P2 s2 hP2
  subst e1
  obtain ⟨x, e4⟩ := e2.2 (by decide)
  subst e4
  dsimp only [Option.toList, List.cons_append, List.nil_append]
  refine hB bL_clock_10 _ _ _ _ _ _ _ kL_clock_10 ?_
  dsimp only [bL_clock_10, kx_wp, kx_step, kx_lI, kx_lL, kx_lA, kx_gl, kx_pI, kx_pL, kx_pR, kx_pA, kx_pV, kx_s1, kx_s2, kx_sl, kx_pre, kx_c2, kx_pl, kx_cmp, kx_oF, kx_eqN, kx_nil, kx_c1, kx_ft, kx_aI, kx_aL, kx_aR, kx_ln, Nat.reduceAdd, Option.toList, List.cons_append, List.nil_append]
  simp only [e3]
  try dsimp only [kx_wp, kx_step, kx_lI, kx_lL, kx_lA, kx_gl, kx_pI, kx_pL, kx_pR, kx_pA, kx_pV, kx_s1, kx_s2, kx_sl, kx_pre, kx_c2, kx_pl, kx_cmp, kx_oF, kx_eqN, kx_nil, kx_c1, kx_ft, kx_aI, kx_aL, kx_aR, kx_ln, Nat.reduceAdd, Option.toList, List.cons_append, List.nil_append]
  refine ⟨by decide, by unfold vp_in; decide, ?_⟩
  refine hB bL_clock_19 _ _ _ _ _ _ _ kL_clock_19 ?_
  dsimp only [bL_clock_19, kx_wp, kx_step, kx_lI, kx_lL, kx_lA, kx_gl, kx_pI, kx_pL, kx_pR, kx_pA, kx_pV, kx_s1, kx_s2, kx_sl, kx_pre, kx_c2, kx_pl, kx_cmp, kx_oF, kx_eqN, kx_nil, kx_c1, kx_ft, kx_aI, kx_aL, kx_aR, kx_ln, Nat.reduceAdd, Option.toList, List.cons_append, List.nil_append]
  exact ⟨_, P2, go, hP2, rfl, e3, rfl⟩

theorem dL_clock_15 : decode cL_clock 15 = .ok (.astore 5, 2) := by decide +kernel
theorem dL_clock_17 : decode cL_clock 17 = .ok (.iconst 1, 1) := by decide +kernel
theorem dL_clock_18 : decode cL_clock 18 = .ok (.ireturn, 1) := by decide +kernel
set_option maxHeartbeats 4000000 in
theorem cw_clock_x0 (l : Launch) (G : kx_G) {P : kx_P} {sz : Nat} {f : Nat → Value} (h64 : P 64 = kO 10 f) {xa xb xc : Int32} {d : Nat} (hM : kx_X l G sX10_clock d (.ref 64 :: [.int xa, .int xb, .int xc]) P sz "java/lang/IllegalArgumentException") : kx_Mw l G sL_clock hL_clock (d + 1) 1 6 [.ref 64, .int xa, .int xb, .int xc, .ref 143] P sz (cPx P sz 1) := by
  refine kx_mkw kx_tab kxLok_L [some (.ref 64), some (.int xa), some (.int xb), some (.int xc), some (.ref 143), none] ⟨by decide +kernel, rfl, by omega⟩ rfl (fun r P' s' h => ⟨_, h.1⟩) rfl rfl (fun g hB hC hN hK => ?_)
  refine hB bL_clock_0 _ _ _ _ _ _ _ kL_clock_0 ?_
  dsimp only [bL_clock_0, kx_wp, kx_step, kx_lI, kx_lL, kx_lA, kx_gl, kx_pI, kx_pL, kx_pR, kx_pA, kx_pV, kx_s1, kx_s2, kx_sl, kx_pre, kx_c2, kx_pl, kx_cmp, kx_oF, kx_eqN, kx_nil, kx_c1, kx_ft, kx_aI, kx_aL, kx_aR, kx_ln, Nat.reduceAdd, Option.toList, List.cons_append, List.nil_append]
  exact hK 15 _ _ _ _ _ 10 _ [.int 0, .ref 143] _ _ _ _ _ "java/lang/IllegalArgumentException" [] [] (0, 12, 15, 13) 2 1 lL_15 hM ⟨by decide, rfl⟩ h64 rfl rfl (Nat.le_of_ble_eq_true rfl) (by omega) (by decide) (by decide) (by decide) dL_clock_7 rfl (by decide) (by decide) (by decide) (kx_at_l kxC_L 0 rfl) (fun q h => by cases h) (Or.inr ⟨5, dL_clock_15, Nat.le_of_ble_eq_true rfl, rfl⟩) dL_clock_17 dL_clock_18 (fun s2 hs => ⟨rfl, rfl, hs⟩)

abbrev sL_wait : kx_S := (yL_wait, cL_wait, 4, some .int)
abbrev hL_wait : List (Nat × Nat × Nat × Nat) := [(0, 9, 12, 13), (0, 9, 15, 22)]
theorem kxW_L_wait : ∀ w ∈ [Cond.methodLink RL 142 yL_wait, Cond.static yL_wait, Cond.codeWith yL_wait cL_wait 4 (some .int) hL_wait], w ∈ kx_ws := kx_in_tbl [950, 951, 952] (by decide +kernel) (by decide +kernel)
theorem lL_142 : kx_lS9 RL 142 sL_wait hL_wait 3 := ⟨kx_at_l kxW_L_wait 0 rfl, kx_at_l kxW_L_wait 1 rfl, kx_at_l kxW_L_wait 2 rfl, kx_at_l kxC_L 3 rfl, by decide +kernel, by decide +kernel, by decide +kernel⟩
def bL_wait_0 : List kx_O := [(.aload_n 2, 2, 0, 0, .null), (.iconst 0, 0, 0, 0, .int 0), (.aload_n 0, 0, 0, 0, .null), (.iload_n 1, 1, 0, 0, .null)]
theorem kL_wait_0 : kx_oks kxL_L false cL_wait 0 bL_wait_0 = true := by decide +kernel
def bL_wait_7 : List kx_O := [(.i2l, 0, 0, 0, .null), (.lastore, 0, 0, 0, .null), (.goto 9, 18, 0, 0, .null)]
theorem kL_wait_7 : kx_oks kxL_L false cL_wait 7 bL_wait_7 = true := by decide +kernel
def bL_wait_12 : List kx_O := [(.astore_n 3, 3, 0, 0, .null), (.iconst 1, 0, 0, 0, .int 1), (.ireturn, 0, 0, 0, .null)]
theorem kL_wait_12 : kx_oks kxL_L false cL_wait 12 bL_wait_12 = true := by decide +kernel
def bL_wait_15 : List kx_O := [(.astore_n 3, 3, 0, 0, .null), (.iconst 2, 0, 0, 0, .int 2), (.ireturn, 0, 0, 0, .null)]
theorem kL_wait_15 : kx_oks kxL_L false cL_wait 15 bL_wait_15 = true := by decide +kernel
def bL_wait_18 : List kx_O := [(.iconst 0, 0, 0, 0, .int 0), (.ireturn, 0, 0, 0, .null)]
theorem kL_wait_18 : kx_oks kxL_L false cL_wait 18 bL_wait_18 = true := by decide +kernel
theorem dL_wait_4 : decode cL_wait 4 = .ok (.invokevirtual 19, 3) := by decide +kernel
set_option maxHeartbeats 4000000 in
theorem cw_wait_t (l : Launch) (G : kx_G) {P : kx_P} {sz : Nat} {f : Nat → Value} (h64 : P 64 = kO 10 f) {xa : Int32} {d mc ms : Nat} {Po : Option Value → kx_P → Nat → Prop} (hM : kx_Mn l G sX10_wait d mc ms (.ref 64 :: [.int xa]) P sz Po) (hp : ∀ r P2 s2, Po r P2 s2 → ∃ (v : Value) (go : Nat → Int64), r = some v ∧ cvT sX11_wait v ∧ P2 143 = kL 1 go) : kx_Mw l G sL_wait hL_wait (d + 1) mc ms [.ref 64, .int xa, .ref 143] P sz (cPt Po) := by
  refine kx_mkw kx_tab kxLok_L [some (.ref 64), some (.int xa), some (.ref 143), none] ⟨by decide +kernel, rfl, by omega⟩ rfl (fun r P' s' h => by obtain ⟨v, P2, go, -, h, -⟩ := h; exact ⟨0, h⟩) rfl rfl (fun g hB hC hN hK => ?_)
  refine hB bL_wait_0 _ _ _ _ _ _ _ kL_wait_0 ?_
  dsimp only [bL_wait_0, kx_wp, kx_step, kx_lI, kx_lL, kx_lA, kx_gl, kx_pI, kx_pL, kx_pR, kx_pA, kx_pV, kx_s1, kx_s2, kx_sl, kx_pre, kx_c2, kx_pl, kx_cmp, kx_oF, kx_eqN, kx_nil, kx_c1, kx_ft, kx_aI, kx_aL, kx_aR, kx_ln, Nat.reduceAdd, Option.toList, List.cons_append, List.nil_append]
  refine hN.1 19 _ _ _ _ _ _ _ 10 _ _ _ _ _ _ _ _ _ _ lL_19 hM ⟨by decide, rfl⟩ h64 rfl rfl (Nat.le_of_ble_eq_true rfl) (by omega) (by decide) (by omega) (by omega) dL_wait_4 ?_
  intro r P2 s2 hP2
  obtain ⟨v, go, e1, e2, e3⟩ := hp r P2 s2 hP2
  subst e1
  obtain ⟨x, e4⟩ := e2.2 (by decide)
  subst e4
  dsimp only [Option.toList, List.cons_append, List.nil_append]
  refine hB bL_wait_7 _ _ _ _ _ _ _ kL_wait_7 ?_
  dsimp only [bL_wait_7, kx_wp, kx_step, kx_lI, kx_lL, kx_lA, kx_gl, kx_pI, kx_pL, kx_pR, kx_pA, kx_pV, kx_s1, kx_s2, kx_sl, kx_pre, kx_c2, kx_pl, kx_cmp, kx_oF, kx_eqN, kx_nil, kx_c1, kx_ft, kx_aI, kx_aL, kx_aR, kx_ln, Nat.reduceAdd, Option.toList, List.cons_append, List.nil_append]
  simp only [e3]
  try dsimp only [kx_wp, kx_step, kx_lI, kx_lL, kx_lA, kx_gl, kx_pI, kx_pL, kx_pR, kx_pA, kx_pV, kx_s1, kx_s2, kx_sl, kx_pre, kx_c2, kx_pl, kx_cmp, kx_oF, kx_eqN, kx_nil, kx_c1, kx_ft, kx_aI, kx_aL, kx_aR, kx_ln, Nat.reduceAdd, Option.toList, List.cons_append, List.nil_append]
  refine ⟨by decide, by unfold vp_in; decide, ?_⟩
  refine hB bL_wait_18 _ _ _ _ _ _ _ kL_wait_18 ?_
  dsimp only [bL_wait_18, kx_wp, kx_step, kx_lI, kx_lL, kx_lA, kx_gl, kx_pI, kx_pL, kx_pR, kx_pA, kx_pV, kx_s1, kx_s2, kx_sl, kx_pre, kx_c2, kx_pl, kx_cmp, kx_oF, kx_eqN, kx_nil, kx_c1, kx_ft, kx_aI, kx_aL, kx_aR, kx_ln, Nat.reduceAdd, Option.toList, List.cons_append, List.nil_append]
  exact ⟨_, P2, go, hP2, rfl, e3, rfl⟩

theorem dL_wait_12 : decode cL_wait 12 = .ok (.astore_n 3, 1) := by decide +kernel
theorem dL_wait_13 : decode cL_wait 13 = .ok (.iconst 1, 1) := by decide +kernel
theorem dL_wait_14 : decode cL_wait 14 = .ok (.ireturn, 1) := by decide +kernel
set_option maxHeartbeats 4000000 in
theorem cw_wait_x0 (l : Launch) (G : kx_G) {P : kx_P} {sz : Nat} {f : Nat → Value} (h64 : P 64 = kO 10 f) {xa : Int32} {d : Nat} (hM : kx_X l G sX10_wait d (.ref 64 :: [.int xa]) P sz "java/lang/IllegalArgumentException") : kx_Mw l G sL_wait hL_wait (d + 1) 1 6 [.ref 64, .int xa, .ref 143] P sz (cPx P sz 1) := by
  refine kx_mkw kx_tab kxLok_L [some (.ref 64), some (.int xa), some (.ref 143), none] ⟨by decide +kernel, rfl, by omega⟩ rfl (fun r P' s' h => ⟨_, h.1⟩) rfl rfl (fun g hB hC hN hK => ?_)
  refine hB bL_wait_0 _ _ _ _ _ _ _ kL_wait_0 ?_
  dsimp only [bL_wait_0, kx_wp, kx_step, kx_lI, kx_lL, kx_lA, kx_gl, kx_pI, kx_pL, kx_pR, kx_pA, kx_pV, kx_s1, kx_s2, kx_sl, kx_pre, kx_c2, kx_pl, kx_cmp, kx_oF, kx_eqN, kx_nil, kx_c1, kx_ft, kx_aI, kx_aL, kx_aR, kx_ln, Nat.reduceAdd, Option.toList, List.cons_append, List.nil_append]
  exact hK 19 _ _ _ _ _ 10 _ [.int 0, .ref 143] _ _ _ _ _ "java/lang/IllegalArgumentException" [] [(0, 9, 15, 22)] (0, 9, 12, 13) 1 1 lL_19 hM ⟨by decide, rfl⟩ h64 rfl rfl (Nat.le_of_ble_eq_true rfl) (by omega) (by decide) (by decide) (by decide) dL_wait_4 rfl (by decide) (by decide) (by decide) (kx_at_l kxC_L 0 rfl) (fun q h => by cases h) (Or.inl ⟨3, dL_wait_12, Nat.le_of_ble_eq_true rfl, rfl⟩) dL_wait_13 dL_wait_14 (fun s2 hs => ⟨rfl, rfl, hs⟩)

theorem dL_wait_15 : decode cL_wait 15 = .ok (.astore_n 3, 1) := by decide +kernel
theorem dL_wait_16 : decode cL_wait 16 = .ok (.iconst 2, 1) := by decide +kernel
theorem dL_wait_17 : decode cL_wait 17 = .ok (.ireturn, 1) := by decide +kernel
set_option maxHeartbeats 4000000 in
theorem cw_wait_x1 (l : Launch) (G : kx_G) {P : kx_P} {sz : Nat} {f : Nat → Value} (h64 : P 64 = kO 10 f) {xa : Int32} {d : Nat} (hM : kx_X l G sX10_wait d (.ref 64 :: [.int xa]) P sz "java/lang/IllegalStateException") : kx_Mw l G sL_wait hL_wait (d + 1) 1 6 [.ref 64, .int xa, .ref 143] P sz (cPx P sz 2) := by
  refine kx_mkw kx_tab kxLok_L [some (.ref 64), some (.int xa), some (.ref 143), none] ⟨by decide +kernel, rfl, by omega⟩ rfl (fun r P' s' h => ⟨_, h.1⟩) rfl rfl (fun g hB hC hN hK => ?_)
  refine hB bL_wait_0 _ _ _ _ _ _ _ kL_wait_0 ?_
  dsimp only [bL_wait_0, kx_wp, kx_step, kx_lI, kx_lL, kx_lA, kx_gl, kx_pI, kx_pL, kx_pR, kx_pA, kx_pV, kx_s1, kx_s2, kx_sl, kx_pre, kx_c2, kx_pl, kx_cmp, kx_oF, kx_eqN, kx_nil, kx_c1, kx_ft, kx_aI, kx_aL, kx_aR, kx_ln, Nat.reduceAdd, Option.toList, List.cons_append, List.nil_append]
  exact hK 19 _ _ _ _ _ 10 _ [.int 0, .ref 143] _ _ _ _ _ "java/lang/IllegalStateException" [(0, 9, 12, 13)] [] (0, 9, 15, 22) 1 2 lL_19 hM ⟨by decide, rfl⟩ h64 rfl rfl (Nat.le_of_ble_eq_true rfl) (by omega) (by decide) (by decide) (by decide) dL_wait_4 rfl (by decide) (by decide) (by decide) (kx_at_l kxC_L 2 rfl) (fun q h => by
    simp only [List.mem_cons, List.not_mem_nil, or_false] at h
    rcases h with rfl
    · exact ⟨by decide, _, kx_at_l kxC_L 0 rfl, by decide⟩) (Or.inl ⟨3, dL_wait_15, Nat.le_of_ble_eq_true rfl, rfl⟩) dL_wait_16 dL_wait_17 (fun s2 hs => ⟨rfl, rfl, hs⟩)

abbrev sL_dial : kx_S := (yL_dial, cL_dial, 4, some .int)
abbrev hL_dial : List (Nat × Nat × Nat × Nat) := [(0, 9, 12, 27)]
theorem kxW_L_dial : ∀ w ∈ [Cond.methodLink RL 145 yL_dial, Cond.static yL_dial, Cond.codeWith yL_dial cL_dial 4 (some .int) hL_dial], w ∈ kx_ws := kx_in_tbl [1098, 1099, 1100] (by decide +kernel) (by decide +kernel)
theorem lL_145 : kx_lS9 RL 145 sL_dial hL_dial 3 := ⟨kx_at_l kxW_L_dial 0 rfl, kx_at_l kxW_L_dial 1 rfl, kx_at_l kxW_L_dial 2 rfl, kx_at_l kxC_L 3 rfl, by decide +kernel, by decide +kernel, by decide +kernel⟩
def bL_dial_0 : List kx_O := [(.aload_n 2, 2, 0, 0, .null), (.iconst 0, 0, 0, 0, .int 0), (.aload_n 0, 0, 0, 0, .null), (.iload_n 1, 1, 0, 0, .null)]
theorem kL_dial_0 : kx_oks kxL_L false cL_dial 0 bL_dial_0 = true := by decide +kernel
def bL_dial_7 : List kx_O := [(.i2l, 0, 0, 0, .null), (.lastore, 0, 0, 0, .null), (.goto 6, 15, 0, 0, .null)]
theorem kL_dial_7 : kx_oks kxL_L false cL_dial 7 bL_dial_7 = true := by decide +kernel
def bL_dial_12 : List kx_O := [(.astore_n 3, 3, 0, 0, .null), (.iconst 1, 0, 0, 0, .int 1), (.ireturn, 0, 0, 0, .null)]
theorem kL_dial_12 : kx_oks kxL_L false cL_dial 12 bL_dial_12 = true := by decide +kernel
def bL_dial_15 : List kx_O := [(.iconst 0, 0, 0, 0, .int 0), (.ireturn, 0, 0, 0, .null)]
theorem kL_dial_15 : kx_oks kxL_L false cL_dial 15 bL_dial_15 = true := by decide +kernel
theorem dL_dial_4 : decode cL_dial 4 = .ok (.invokevirtual 24, 3) := by decide +kernel
set_option maxHeartbeats 4000000 in
theorem cw_dial_t (l : Launch) (G : kx_G) {P : kx_P} {sz : Nat} {f : Nat → Value} (h64 : P 64 = kO 10 f) {xa : Int32} {d mc ms : Nat} {Po : Option Value → kx_P → Nat → Prop} (hM : kx_Mn l G sX10_dial d mc ms (.ref 64 :: [.int xa]) P sz Po) (hp : ∀ r P2 s2, Po r P2 s2 → ∃ (v : Value) (go : Nat → Int64), r = some v ∧ cvT sX11_dial v ∧ P2 143 = kL 1 go) : kx_Mw l G sL_dial hL_dial (d + 1) mc ms [.ref 64, .int xa, .ref 143] P sz (cPt Po) := by
  refine kx_mkw kx_tab kxLok_L [some (.ref 64), some (.int xa), some (.ref 143), none] ⟨by decide +kernel, rfl, by omega⟩ rfl (fun r P' s' h => by obtain ⟨v, P2, go, -, h, -⟩ := h; exact ⟨0, h⟩) rfl rfl (fun g hB hC hN hK => ?_)
  refine hB bL_dial_0 _ _ _ _ _ _ _ kL_dial_0 ?_
  dsimp only [bL_dial_0, kx_wp, kx_step, kx_lI, kx_lL, kx_lA, kx_gl, kx_pI, kx_pL, kx_pR, kx_pA, kx_pV, kx_s1, kx_s2, kx_sl, kx_pre, kx_c2, kx_pl, kx_cmp, kx_oF, kx_eqN, kx_nil, kx_c1, kx_ft, kx_aI, kx_aL, kx_aR, kx_ln, Nat.reduceAdd, Option.toList, List.cons_append, List.nil_append]
  refine hN.1 24 _ _ _ _ _ _ _ 10 _ _ _ _ _ _ _ _ _ _ lL_24 hM ⟨by decide, rfl⟩ h64 rfl rfl (Nat.le_of_ble_eq_true rfl) (by omega) (by decide) (by omega) (by omega) dL_dial_4 ?_
  intro r P2 s2 hP2
  obtain ⟨v, go, e1, e2, e3⟩ := hp r P2 s2 hP2
  subst e1
  obtain ⟨x, e4⟩ := e2.2 (by decide)
  subst e4
  dsimp only [Option.toList, List.cons_append, List.nil_append]
  refine hB bL_dial_7 _ _ _ _ _ _ _ kL_dial_7 ?_
  dsimp only [bL_dial_7, kx_wp, kx_step, kx_lI, kx_lL, kx_lA, kx_gl, kx_pI, kx_pL, kx_pR, kx_pA, kx_pV, kx_s1, kx_s2, kx_sl, kx_pre, kx_c2, kx_pl, kx_cmp, kx_oF, kx_eqN, kx_nil, kx_c1, kx_ft, kx_aI, kx_aL, kx_aR, kx_ln, Nat.reduceAdd, Option.toList, List.cons_append, List.nil_append]
  simp only [e3]
  try dsimp only [kx_wp, kx_step, kx_lI, kx_lL, kx_lA, kx_gl, kx_pI, kx_pL, kx_pR, kx_pA, kx_pV, kx_s1, kx_s2, kx_sl, kx_pre, kx_c2, kx_pl, kx_cmp, kx_oF, kx_eqN, kx_nil, kx_c1, kx_ft, kx_aI, kx_aL, kx_aR, kx_ln, Nat.reduceAdd, Option.toList, List.cons_append, List.nil_append]
  refine ⟨by decide, by unfold vp_in; decide, ?_⟩
  refine hB bL_dial_15 _ _ _ _ _ _ _ kL_dial_15 ?_
  dsimp only [bL_dial_15, kx_wp, kx_step, kx_lI, kx_lL, kx_lA, kx_gl, kx_pI, kx_pL, kx_pR, kx_pA, kx_pV, kx_s1, kx_s2, kx_sl, kx_pre, kx_c2, kx_pl, kx_cmp, kx_oF, kx_eqN, kx_nil, kx_c1, kx_ft, kx_aI, kx_aL, kx_aR, kx_ln, Nat.reduceAdd, Option.toList, List.cons_append, List.nil_append]
  exact ⟨_, P2, go, hP2, rfl, e3, rfl⟩

theorem dL_dial_12 : decode cL_dial 12 = .ok (.astore_n 3, 1) := by decide +kernel
theorem dL_dial_13 : decode cL_dial 13 = .ok (.iconst 1, 1) := by decide +kernel
theorem dL_dial_14 : decode cL_dial 14 = .ok (.ireturn, 1) := by decide +kernel
set_option maxHeartbeats 4000000 in
theorem cw_dial_x0 (l : Launch) (G : kx_G) {P : kx_P} {sz : Nat} {f : Nat → Value} (h64 : P 64 = kO 10 f) {xa : Int32} {d : Nat} (hM : kx_X l G sX10_dial d (.ref 64 :: [.int xa]) P sz "java/util/NoSuchElementException") : kx_Mw l G sL_dial hL_dial (d + 1) 1 6 [.ref 64, .int xa, .ref 143] P sz (cPx P sz 1) := by
  refine kx_mkw kx_tab kxLok_L [some (.ref 64), some (.int xa), some (.ref 143), none] ⟨by decide +kernel, rfl, by omega⟩ rfl (fun r P' s' h => ⟨_, h.1⟩) rfl rfl (fun g hB hC hN hK => ?_)
  refine hB bL_dial_0 _ _ _ _ _ _ _ kL_dial_0 ?_
  dsimp only [bL_dial_0, kx_wp, kx_step, kx_lI, kx_lL, kx_lA, kx_gl, kx_pI, kx_pL, kx_pR, kx_pA, kx_pV, kx_s1, kx_s2, kx_sl, kx_pre, kx_c2, kx_pl, kx_cmp, kx_oF, kx_eqN, kx_nil, kx_c1, kx_ft, kx_aI, kx_aL, kx_aR, kx_ln, Nat.reduceAdd, Option.toList, List.cons_append, List.nil_append]
  exact hK 24 _ _ _ _ _ 10 _ [.int 0, .ref 143] _ _ _ _ _ "java/util/NoSuchElementException" [] [] (0, 9, 12, 27) 1 1 lL_24 hM ⟨by decide, rfl⟩ h64 rfl rfl (Nat.le_of_ble_eq_true rfl) (by omega) (by decide) (by decide) (by decide) dL_dial_4 rfl (by decide) (by decide) (by decide) (kx_at_l kxC_L 1 rfl) (fun q h => by cases h) (Or.inl ⟨3, dL_dial_12, Nat.le_of_ble_eq_true rfl, rfl⟩) dL_dial_13 dL_dial_14 (fun s2 hs => ⟨rfl, rfl, hs⟩)

abbrev sL_error : kx_S := (yL_error, cL_error, 4, some .int)
abbrev hL_error : List (Nat × Nat × Nat × Nat) := [(0, 9, 12, 27)]
theorem kxW_L_error : ∀ w ∈ [Cond.methodLink RL 148 yL_error, Cond.static yL_error, Cond.codeWith yL_error cL_error 4 (some .int) hL_error], w ∈ kx_ws := kx_in_tbl [1126, 1127, 1128] (by decide +kernel) (by decide +kernel)
theorem lL_148 : kx_lS9 RL 148 sL_error hL_error 3 := ⟨kx_at_l kxW_L_error 0 rfl, kx_at_l kxW_L_error 1 rfl, kx_at_l kxW_L_error 2 rfl, kx_at_l kxC_L 3 rfl, by decide +kernel, by decide +kernel, by decide +kernel⟩
def bL_error_0 : List kx_O := [(.aload_n 2, 2, 0, 0, .null), (.iconst 0, 0, 0, 0, .int 0), (.aload_n 0, 0, 0, 0, .null), (.iload_n 1, 1, 0, 0, .null)]
theorem kL_error_0 : kx_oks kxL_L false cL_error 0 bL_error_0 = true := by decide +kernel
def bL_error_7 : List kx_O := [(.i2l, 0, 0, 0, .null), (.lastore, 0, 0, 0, .null), (.goto 6, 15, 0, 0, .null)]
theorem kL_error_7 : kx_oks kxL_L false cL_error 7 bL_error_7 = true := by decide +kernel
def bL_error_12 : List kx_O := [(.astore_n 3, 3, 0, 0, .null), (.iconst 1, 0, 0, 0, .int 1), (.ireturn, 0, 0, 0, .null)]
theorem kL_error_12 : kx_oks kxL_L false cL_error 12 bL_error_12 = true := by decide +kernel
def bL_error_15 : List kx_O := [(.iconst 0, 0, 0, 0, .int 0), (.ireturn, 0, 0, 0, .null)]
theorem kL_error_15 : kx_oks kxL_L false cL_error 15 bL_error_15 = true := by decide +kernel
theorem dL_error_4 : decode cL_error 4 = .ok (.invokevirtual 29, 3) := by decide +kernel
set_option maxHeartbeats 4000000 in
theorem cw_error_t (l : Launch) (G : kx_G) {P : kx_P} {sz : Nat} {f : Nat → Value} (h64 : P 64 = kO 10 f) {xa : Int32} {d mc ms : Nat} {Po : Option Value → kx_P → Nat → Prop} (hM : kx_Mn l G sX10_error d mc ms (.ref 64 :: [.int xa]) P sz Po) (hp : ∀ r P2 s2, Po r P2 s2 → ∃ (v : Value) (go : Nat → Int64), r = some v ∧ cvT sX11_error v ∧ P2 143 = kL 1 go) : kx_Mw l G sL_error hL_error (d + 1) mc ms [.ref 64, .int xa, .ref 143] P sz (cPt Po) := by
  refine kx_mkw kx_tab kxLok_L [some (.ref 64), some (.int xa), some (.ref 143), none] ⟨by decide +kernel, rfl, by omega⟩ rfl (fun r P' s' h => by obtain ⟨v, P2, go, -, h, -⟩ := h; exact ⟨0, h⟩) rfl rfl (fun g hB hC hN hK => ?_)
  refine hB bL_error_0 _ _ _ _ _ _ _ kL_error_0 ?_
  dsimp only [bL_error_0, kx_wp, kx_step, kx_lI, kx_lL, kx_lA, kx_gl, kx_pI, kx_pL, kx_pR, kx_pA, kx_pV, kx_s1, kx_s2, kx_sl, kx_pre, kx_c2, kx_pl, kx_cmp, kx_oF, kx_eqN, kx_nil, kx_c1, kx_ft, kx_aI, kx_aL, kx_aR, kx_ln, Nat.reduceAdd, Option.toList, List.cons_append, List.nil_append]
  refine hN.1 29 _ _ _ _ _ _ _ 10 _ _ _ _ _ _ _ _ _ _ lL_29 hM ⟨by decide, rfl⟩ h64 rfl rfl (Nat.le_of_ble_eq_true rfl) (by omega) (by decide) (by omega) (by omega) dL_error_4 ?_
  intro r P2 s2 hP2
  obtain ⟨v, go, e1, e2, e3⟩ := hp r P2 s2 hP2
  subst e1
  obtain ⟨x, e4⟩ := e2.2 (by decide)
  subst e4
  dsimp only [Option.toList, List.cons_append, List.nil_append]
  refine hB bL_error_7 _ _ _ _ _ _ _ kL_error_7 ?_
  dsimp only [bL_error_7, kx_wp, kx_step, kx_lI, kx_lL, kx_lA, kx_gl, kx_pI, kx_pL, kx_pR, kx_pA, kx_pV, kx_s1, kx_s2, kx_sl, kx_pre, kx_c2, kx_pl, kx_cmp, kx_oF, kx_eqN, kx_nil, kx_c1, kx_ft, kx_aI, kx_aL, kx_aR, kx_ln, Nat.reduceAdd, Option.toList, List.cons_append, List.nil_append]
  simp only [e3]
  try dsimp only [kx_wp, kx_step, kx_lI, kx_lL, kx_lA, kx_gl, kx_pI, kx_pL, kx_pR, kx_pA, kx_pV, kx_s1, kx_s2, kx_sl, kx_pre, kx_c2, kx_pl, kx_cmp, kx_oF, kx_eqN, kx_nil, kx_c1, kx_ft, kx_aI, kx_aL, kx_aR, kx_ln, Nat.reduceAdd, Option.toList, List.cons_append, List.nil_append]
  refine ⟨by decide, by unfold vp_in; decide, ?_⟩
  refine hB bL_error_15 _ _ _ _ _ _ _ kL_error_15 ?_
  dsimp only [bL_error_15, kx_wp, kx_step, kx_lI, kx_lL, kx_lA, kx_gl, kx_pI, kx_pL, kx_pR, kx_pA, kx_pV, kx_s1, kx_s2, kx_sl, kx_pre, kx_c2, kx_pl, kx_cmp, kx_oF, kx_eqN, kx_nil, kx_c1, kx_ft, kx_aI, kx_aL, kx_aR, kx_ln, Nat.reduceAdd, Option.toList, List.cons_append, List.nil_append]
  exact ⟨_, P2, go, hP2, rfl, e3, rfl⟩

theorem dL_error_12 : decode cL_error 12 = .ok (.astore_n 3, 1) := by decide +kernel
theorem dL_error_13 : decode cL_error 13 = .ok (.iconst 1, 1) := by decide +kernel
theorem dL_error_14 : decode cL_error 14 = .ok (.ireturn, 1) := by decide +kernel
set_option maxHeartbeats 4000000 in
theorem cw_error_x0 (l : Launch) (G : kx_G) {P : kx_P} {sz : Nat} {f : Nat → Value} (h64 : P 64 = kO 10 f) {xa : Int32} {d : Nat} (hM : kx_X l G sX10_error d (.ref 64 :: [.int xa]) P sz "java/util/NoSuchElementException") : kx_Mw l G sL_error hL_error (d + 1) 1 6 [.ref 64, .int xa, .ref 143] P sz (cPx P sz 1) := by
  refine kx_mkw kx_tab kxLok_L [some (.ref 64), some (.int xa), some (.ref 143), none] ⟨by decide +kernel, rfl, by omega⟩ rfl (fun r P' s' h => ⟨_, h.1⟩) rfl rfl (fun g hB hC hN hK => ?_)
  refine hB bL_error_0 _ _ _ _ _ _ _ kL_error_0 ?_
  dsimp only [bL_error_0, kx_wp, kx_step, kx_lI, kx_lL, kx_lA, kx_gl, kx_pI, kx_pL, kx_pR, kx_pA, kx_pV, kx_s1, kx_s2, kx_sl, kx_pre, kx_c2, kx_pl, kx_cmp, kx_oF, kx_eqN, kx_nil, kx_c1, kx_ft, kx_aI, kx_aL, kx_aR, kx_ln, Nat.reduceAdd, Option.toList, List.cons_append, List.nil_append]
  exact hK 29 _ _ _ _ _ 10 _ [.int 0, .ref 143] _ _ _ _ _ "java/util/NoSuchElementException" [] [] (0, 9, 12, 27) 1 1 lL_29 hM ⟨by decide, rfl⟩ h64 rfl rfl (Nat.le_of_ble_eq_true rfl) (by omega) (by decide) (by decide) (by decide) dL_error_4 rfl (by decide) (by decide) (by decide) (kx_at_l kxC_L 1 rfl) (fun q h => by cases h) (Or.inl ⟨3, dL_error_12, Nat.le_of_ble_eq_true rfl, rfl⟩) dL_error_13 dL_error_14 (fun s2 hs => ⟨rfl, rfl, hs⟩)

abbrev sL_rate : kx_S := (yL_rate, cL_rate, 4, some .int)
abbrev hL_rate : List (Nat × Nat × Nat × Nat) := [(0, 9, 12, 27)]
theorem kxW_L_rate : ∀ w ∈ [Cond.methodLink RL 151 yL_rate, Cond.static yL_rate, Cond.codeWith yL_rate cL_rate 4 (some .int) hL_rate], w ∈ kx_ws := kx_in_tbl [1142, 1143, 1144] (by decide +kernel) (by decide +kernel)
theorem lL_151 : kx_lS9 RL 151 sL_rate hL_rate 3 := ⟨kx_at_l kxW_L_rate 0 rfl, kx_at_l kxW_L_rate 1 rfl, kx_at_l kxW_L_rate 2 rfl, kx_at_l kxC_L 3 rfl, by decide +kernel, by decide +kernel, by decide +kernel⟩
def bL_rate_0 : List kx_O := [(.aload_n 2, 2, 0, 0, .null), (.iconst 0, 0, 0, 0, .int 0), (.aload_n 0, 0, 0, 0, .null), (.iload_n 1, 1, 0, 0, .null)]
theorem kL_rate_0 : kx_oks kxL_L false cL_rate 0 bL_rate_0 = true := by decide +kernel
def bL_rate_7 : List kx_O := [(.i2l, 0, 0, 0, .null), (.lastore, 0, 0, 0, .null), (.goto 6, 15, 0, 0, .null)]
theorem kL_rate_7 : kx_oks kxL_L false cL_rate 7 bL_rate_7 = true := by decide +kernel
def bL_rate_12 : List kx_O := [(.astore_n 3, 3, 0, 0, .null), (.iconst 1, 0, 0, 0, .int 1), (.ireturn, 0, 0, 0, .null)]
theorem kL_rate_12 : kx_oks kxL_L false cL_rate 12 bL_rate_12 = true := by decide +kernel
def bL_rate_15 : List kx_O := [(.iconst 0, 0, 0, 0, .int 0), (.ireturn, 0, 0, 0, .null)]
theorem kL_rate_15 : kx_oks kxL_L false cL_rate 15 bL_rate_15 = true := by decide +kernel
theorem dL_rate_4 : decode cL_rate 4 = .ok (.invokevirtual 32, 3) := by decide +kernel
set_option maxHeartbeats 4000000 in
theorem cw_rate_t (l : Launch) (G : kx_G) {P : kx_P} {sz : Nat} {f : Nat → Value} (h64 : P 64 = kO 10 f) {xa : Int32} {d mc ms : Nat} {Po : Option Value → kx_P → Nat → Prop} (hM : kx_Mn l G sX10_rate d mc ms (.ref 64 :: [.int xa]) P sz Po) (hp : ∀ r P2 s2, Po r P2 s2 → ∃ (v : Value) (go : Nat → Int64), r = some v ∧ cvT sX11_rate v ∧ P2 143 = kL 1 go) : kx_Mw l G sL_rate hL_rate (d + 1) mc ms [.ref 64, .int xa, .ref 143] P sz (cPt Po) := by
  refine kx_mkw kx_tab kxLok_L [some (.ref 64), some (.int xa), some (.ref 143), none] ⟨by decide +kernel, rfl, by omega⟩ rfl (fun r P' s' h => by obtain ⟨v, P2, go, -, h, -⟩ := h; exact ⟨0, h⟩) rfl rfl (fun g hB hC hN hK => ?_)
  refine hB bL_rate_0 _ _ _ _ _ _ _ kL_rate_0 ?_
  dsimp only [bL_rate_0, kx_wp, kx_step, kx_lI, kx_lL, kx_lA, kx_gl, kx_pI, kx_pL, kx_pR, kx_pA, kx_pV, kx_s1, kx_s2, kx_sl, kx_pre, kx_c2, kx_pl, kx_cmp, kx_oF, kx_eqN, kx_nil, kx_c1, kx_ft, kx_aI, kx_aL, kx_aR, kx_ln, Nat.reduceAdd, Option.toList, List.cons_append, List.nil_append]
  refine hN.1 32 _ _ _ _ _ _ _ 10 _ _ _ _ _ _ _ _ _ _ lL_32 hM ⟨by decide, rfl⟩ h64 rfl rfl (Nat.le_of_ble_eq_true rfl) (by omega) (by decide) (by omega) (by omega) dL_rate_4 ?_
  intro r P2 s2 hP2
  obtain ⟨v, go, e1, e2, e3⟩ := hp r P2 s2 hP2
  subst e1
  obtain ⟨x, e4⟩ := e2.2 (by decide)
  subst e4
  dsimp only [Option.toList, List.cons_append, List.nil_append]
  refine hB bL_rate_7 _ _ _ _ _ _ _ kL_rate_7 ?_
  dsimp only [bL_rate_7, kx_wp, kx_step, kx_lI, kx_lL, kx_lA, kx_gl, kx_pI, kx_pL, kx_pR, kx_pA, kx_pV, kx_s1, kx_s2, kx_sl, kx_pre, kx_c2, kx_pl, kx_cmp, kx_oF, kx_eqN, kx_nil, kx_c1, kx_ft, kx_aI, kx_aL, kx_aR, kx_ln, Nat.reduceAdd, Option.toList, List.cons_append, List.nil_append]
  simp only [e3]
  try dsimp only [kx_wp, kx_step, kx_lI, kx_lL, kx_lA, kx_gl, kx_pI, kx_pL, kx_pR, kx_pA, kx_pV, kx_s1, kx_s2, kx_sl, kx_pre, kx_c2, kx_pl, kx_cmp, kx_oF, kx_eqN, kx_nil, kx_c1, kx_ft, kx_aI, kx_aL, kx_aR, kx_ln, Nat.reduceAdd, Option.toList, List.cons_append, List.nil_append]
  refine ⟨by decide, by unfold vp_in; decide, ?_⟩
  refine hB bL_rate_15 _ _ _ _ _ _ _ kL_rate_15 ?_
  dsimp only [bL_rate_15, kx_wp, kx_step, kx_lI, kx_lL, kx_lA, kx_gl, kx_pI, kx_pL, kx_pR, kx_pA, kx_pV, kx_s1, kx_s2, kx_sl, kx_pre, kx_c2, kx_pl, kx_cmp, kx_oF, kx_eqN, kx_nil, kx_c1, kx_ft, kx_aI, kx_aL, kx_aR, kx_ln, Nat.reduceAdd, Option.toList, List.cons_append, List.nil_append]
  exact ⟨_, P2, go, hP2, rfl, e3, rfl⟩

theorem dL_rate_12 : decode cL_rate 12 = .ok (.astore_n 3, 1) := by decide +kernel
theorem dL_rate_13 : decode cL_rate 13 = .ok (.iconst 1, 1) := by decide +kernel
theorem dL_rate_14 : decode cL_rate 14 = .ok (.ireturn, 1) := by decide +kernel
set_option maxHeartbeats 4000000 in
theorem cw_rate_x0 (l : Launch) (G : kx_G) {P : kx_P} {sz : Nat} {f : Nat → Value} (h64 : P 64 = kO 10 f) {xa : Int32} {d : Nat} (hM : kx_X l G sX10_rate d (.ref 64 :: [.int xa]) P sz "java/util/NoSuchElementException") : kx_Mw l G sL_rate hL_rate (d + 1) 1 6 [.ref 64, .int xa, .ref 143] P sz (cPx P sz 1) := by
  refine kx_mkw kx_tab kxLok_L [some (.ref 64), some (.int xa), some (.ref 143), none] ⟨by decide +kernel, rfl, by omega⟩ rfl (fun r P' s' h => ⟨_, h.1⟩) rfl rfl (fun g hB hC hN hK => ?_)
  refine hB bL_rate_0 _ _ _ _ _ _ _ kL_rate_0 ?_
  dsimp only [bL_rate_0, kx_wp, kx_step, kx_lI, kx_lL, kx_lA, kx_gl, kx_pI, kx_pL, kx_pR, kx_pA, kx_pV, kx_s1, kx_s2, kx_sl, kx_pre, kx_c2, kx_pl, kx_cmp, kx_oF, kx_eqN, kx_nil, kx_c1, kx_ft, kx_aI, kx_aL, kx_aR, kx_ln, Nat.reduceAdd, Option.toList, List.cons_append, List.nil_append]
  exact hK 32 _ _ _ _ _ 10 _ [.int 0, .ref 143] _ _ _ _ _ "java/util/NoSuchElementException" [] [] (0, 9, 12, 27) 1 1 lL_32 hM ⟨by decide, rfl⟩ h64 rfl rfl (Nat.le_of_ble_eq_true rfl) (by omega) (by decide) (by decide) (by decide) dL_rate_4 rfl (by decide) (by decide) (by decide) (kx_at_l kxC_L 1 rfl) (fun q h => by cases h) (Or.inl ⟨3, dL_rate_12, Nat.le_of_ble_eq_true rfl, rfl⟩) dL_rate_13 dL_rate_14 (fun s2 hs => ⟨rfl, rfl, hs⟩)

abbrev sL_told : kx_S := (yL_told, cL_told, 5, some .int)
abbrev hL_told : List (Nat × Nat × Nat × Nat) := [(0, 10, 13, 27), (0, 10, 17, 13)]
theorem kxW_L_told : ∀ w ∈ [Cond.methodLink RL 154 yL_told, Cond.static yL_told, Cond.codeWith yL_told cL_told 5 (some .int) hL_told], w ∈ kx_ws := kx_in_tbl [1150, 1151, 1152] (by decide +kernel) (by decide +kernel)
theorem lL_154 : kx_lS9 RL 154 sL_told hL_told 4 := ⟨kx_at_l kxW_L_told 0 rfl, kx_at_l kxW_L_told 1 rfl, kx_at_l kxW_L_told 2 rfl, kx_at_l kxC_L 3 rfl, by decide +kernel, by decide +kernel, by decide +kernel⟩
def bL_told_0 : List kx_O := [(.aload_n 3, 3, 0, 0, .null), (.iconst 0, 0, 0, 0, .int 0), (.aload_n 0, 0, 0, 0, .null), (.iload_n 1, 1, 0, 0, .null), (.iload_n 2, 2, 0, 0, .null)]
theorem kL_told_0 : kx_oks kxL_L false cL_told 0 bL_told_0 = true := by decide +kernel
def bL_told_8 : List kx_O := [(.i2l, 0, 0, 0, .null), (.lastore, 0, 0, 0, .null), (.goto 11, 21, 0, 0, .null)]
theorem kL_told_8 : kx_oks kxL_L false cL_told 8 bL_told_8 = true := by decide +kernel
def bL_told_13 : List kx_O := [(.astore 4, 4, 0, 0, .null), (.iconst 1, 0, 0, 0, .int 1), (.ireturn, 0, 0, 0, .null)]
theorem kL_told_13 : kx_oks kxL_L false cL_told 13 bL_told_13 = true := by decide +kernel
def bL_told_17 : List kx_O := [(.astore 4, 4, 0, 0, .null), (.iconst 2, 0, 0, 0, .int 2), (.ireturn, 0, 0, 0, .null)]
theorem kL_told_17 : kx_oks kxL_L false cL_told 17 bL_told_17 = true := by decide +kernel
def bL_told_21 : List kx_O := [(.iconst 0, 0, 0, 0, .int 0), (.ireturn, 0, 0, 0, .null)]
theorem kL_told_21 : kx_oks kxL_L false cL_told 21 bL_told_21 = true := by decide +kernel
theorem dL_told_5 : decode cL_told 5 = .ok (.invokevirtual 35, 3) := by decide +kernel
set_option maxHeartbeats 4000000 in
theorem cw_told_t (l : Launch) (G : kx_G) {P : kx_P} {sz : Nat} {f : Nat → Value} (h64 : P 64 = kO 10 f) {xa xb : Int32} {d mc ms : Nat} {Po : Option Value → kx_P → Nat → Prop} (hM : kx_Mn l G sX10_told d mc ms (.ref 64 :: [.int xa, .int xb]) P sz Po) (hp : ∀ r P2 s2, Po r P2 s2 → ∃ (v : Value) (go : Nat → Int64), r = some v ∧ cvT sX11_told v ∧ P2 143 = kL 1 go) : kx_Mw l G sL_told hL_told (d + 1) mc ms [.ref 64, .int xa, .int xb, .ref 143] P sz (cPt Po) := by
  refine kx_mkw kx_tab kxLok_L [some (.ref 64), some (.int xa), some (.int xb), some (.ref 143), none] ⟨by decide +kernel, rfl, by omega⟩ rfl (fun r P' s' h => by obtain ⟨v, P2, go, -, h, -⟩ := h; exact ⟨0, h⟩) rfl rfl (fun g hB hC hN hK => ?_)
  refine hB bL_told_0 _ _ _ _ _ _ _ kL_told_0 ?_
  dsimp only [bL_told_0, kx_wp, kx_step, kx_lI, kx_lL, kx_lA, kx_gl, kx_pI, kx_pL, kx_pR, kx_pA, kx_pV, kx_s1, kx_s2, kx_sl, kx_pre, kx_c2, kx_pl, kx_cmp, kx_oF, kx_eqN, kx_nil, kx_c1, kx_ft, kx_aI, kx_aL, kx_aR, kx_ln, Nat.reduceAdd, Option.toList, List.cons_append, List.nil_append]
  refine hN.1 35 _ _ _ _ _ _ _ 10 _ _ _ _ _ _ _ _ _ _ lL_35 hM ⟨by decide, rfl⟩ h64 rfl rfl (Nat.le_of_ble_eq_true rfl) (by omega) (by decide) (by omega) (by omega) dL_told_5 ?_
  intro r P2 s2 hP2
  obtain ⟨v, go, e1, e2, e3⟩ := hp r P2 s2 hP2
  subst e1
  obtain ⟨x, e4⟩ := e2.2 (by decide)
  subst e4
  dsimp only [Option.toList, List.cons_append, List.nil_append]
  refine hB bL_told_8 _ _ _ _ _ _ _ kL_told_8 ?_
  dsimp only [bL_told_8, kx_wp, kx_step, kx_lI, kx_lL, kx_lA, kx_gl, kx_pI, kx_pL, kx_pR, kx_pA, kx_pV, kx_s1, kx_s2, kx_sl, kx_pre, kx_c2, kx_pl, kx_cmp, kx_oF, kx_eqN, kx_nil, kx_c1, kx_ft, kx_aI, kx_aL, kx_aR, kx_ln, Nat.reduceAdd, Option.toList, List.cons_append, List.nil_append]
  simp only [e3]
  try dsimp only [kx_wp, kx_step, kx_lI, kx_lL, kx_lA, kx_gl, kx_pI, kx_pL, kx_pR, kx_pA, kx_pV, kx_s1, kx_s2, kx_sl, kx_pre, kx_c2, kx_pl, kx_cmp, kx_oF, kx_eqN, kx_nil, kx_c1, kx_ft, kx_aI, kx_aL, kx_aR, kx_ln, Nat.reduceAdd, Option.toList, List.cons_append, List.nil_append]
  refine ⟨by decide, by unfold vp_in; decide, ?_⟩
  refine hB bL_told_21 _ _ _ _ _ _ _ kL_told_21 ?_
  dsimp only [bL_told_21, kx_wp, kx_step, kx_lI, kx_lL, kx_lA, kx_gl, kx_pI, kx_pL, kx_pR, kx_pA, kx_pV, kx_s1, kx_s2, kx_sl, kx_pre, kx_c2, kx_pl, kx_cmp, kx_oF, kx_eqN, kx_nil, kx_c1, kx_ft, kx_aI, kx_aL, kx_aR, kx_ln, Nat.reduceAdd, Option.toList, List.cons_append, List.nil_append]
  exact ⟨_, P2, go, hP2, rfl, e3, rfl⟩

theorem dL_told_13 : decode cL_told 13 = .ok (.astore 4, 2) := by decide +kernel
theorem dL_told_15 : decode cL_told 15 = .ok (.iconst 1, 1) := by decide +kernel
theorem dL_told_16 : decode cL_told 16 = .ok (.ireturn, 1) := by decide +kernel
set_option maxHeartbeats 4000000 in
theorem cw_told_x0 (l : Launch) (G : kx_G) {P : kx_P} {sz : Nat} {f : Nat → Value} (h64 : P 64 = kO 10 f) {xa xb : Int32} {d : Nat} (hM : kx_X l G sX10_told d (.ref 64 :: [.int xa, .int xb]) P sz "java/util/NoSuchElementException") : kx_Mw l G sL_told hL_told (d + 1) 1 6 [.ref 64, .int xa, .int xb, .ref 143] P sz (cPx P sz 1) := by
  refine kx_mkw kx_tab kxLok_L [some (.ref 64), some (.int xa), some (.int xb), some (.ref 143), none] ⟨by decide +kernel, rfl, by omega⟩ rfl (fun r P' s' h => ⟨_, h.1⟩) rfl rfl (fun g hB hC hN hK => ?_)
  refine hB bL_told_0 _ _ _ _ _ _ _ kL_told_0 ?_
  dsimp only [bL_told_0, kx_wp, kx_step, kx_lI, kx_lL, kx_lA, kx_gl, kx_pI, kx_pL, kx_pR, kx_pA, kx_pV, kx_s1, kx_s2, kx_sl, kx_pre, kx_c2, kx_pl, kx_cmp, kx_oF, kx_eqN, kx_nil, kx_c1, kx_ft, kx_aI, kx_aL, kx_aR, kx_ln, Nat.reduceAdd, Option.toList, List.cons_append, List.nil_append]
  exact hK 35 _ _ _ _ _ 10 _ [.int 0, .ref 143] _ _ _ _ _ "java/util/NoSuchElementException" [] [(0, 10, 17, 13)] (0, 10, 13, 27) 2 1 lL_35 hM ⟨by decide, rfl⟩ h64 rfl rfl (Nat.le_of_ble_eq_true rfl) (by omega) (by decide) (by decide) (by decide) dL_told_5 rfl (by decide) (by decide) (by decide) (kx_at_l kxC_L 1 rfl) (fun q h => by cases h) (Or.inr ⟨4, dL_told_13, Nat.le_of_ble_eq_true rfl, rfl⟩) dL_told_15 dL_told_16 (fun s2 hs => ⟨rfl, rfl, hs⟩)

theorem dL_told_17 : decode cL_told 17 = .ok (.astore 4, 2) := by decide +kernel
theorem dL_told_19 : decode cL_told 19 = .ok (.iconst 2, 1) := by decide +kernel
theorem dL_told_20 : decode cL_told 20 = .ok (.ireturn, 1) := by decide +kernel
set_option maxHeartbeats 4000000 in
theorem cw_told_x1 (l : Launch) (G : kx_G) {P : kx_P} {sz : Nat} {f : Nat → Value} (h64 : P 64 = kO 10 f) {xa xb : Int32} {d : Nat} (hM : kx_X l G sX10_told d (.ref 64 :: [.int xa, .int xb]) P sz "java/lang/IllegalArgumentException") : kx_Mw l G sL_told hL_told (d + 1) 1 6 [.ref 64, .int xa, .int xb, .ref 143] P sz (cPx P sz 2) := by
  refine kx_mkw kx_tab kxLok_L [some (.ref 64), some (.int xa), some (.int xb), some (.ref 143), none] ⟨by decide +kernel, rfl, by omega⟩ rfl (fun r P' s' h => ⟨_, h.1⟩) rfl rfl (fun g hB hC hN hK => ?_)
  refine hB bL_told_0 _ _ _ _ _ _ _ kL_told_0 ?_
  dsimp only [bL_told_0, kx_wp, kx_step, kx_lI, kx_lL, kx_lA, kx_gl, kx_pI, kx_pL, kx_pR, kx_pA, kx_pV, kx_s1, kx_s2, kx_sl, kx_pre, kx_c2, kx_pl, kx_cmp, kx_oF, kx_eqN, kx_nil, kx_c1, kx_ft, kx_aI, kx_aL, kx_aR, kx_ln, Nat.reduceAdd, Option.toList, List.cons_append, List.nil_append]
  exact hK 35 _ _ _ _ _ 10 _ [.int 0, .ref 143] _ _ _ _ _ "java/lang/IllegalArgumentException" [(0, 10, 13, 27)] [] (0, 10, 17, 13) 2 2 lL_35 hM ⟨by decide, rfl⟩ h64 rfl rfl (Nat.le_of_ble_eq_true rfl) (by omega) (by decide) (by decide) (by decide) dL_told_5 rfl (by decide) (by decide) (by decide) (kx_at_l kxC_L 0 rfl) (fun q h => by
    simp only [List.mem_cons, List.not_mem_nil, or_false] at h
    rcases h with rfl
    · exact ⟨by decide, _, kx_at_l kxC_L 1 rfl, by decide⟩) (Or.inr ⟨4, dL_told_17, Nat.le_of_ble_eq_true rfl, rfl⟩) dL_told_19 dL_told_20 (fun s2 hs => ⟨rfl, rfl, hs⟩)

abbrev sL_wind : kx_S := (yL_wind, cL_wind, 5, some .int)
abbrev hL_wind : List (Nat × Nat × Nat × Nat) := [(0, 10, 13, 27), (0, 10, 17, 13)]
theorem kxW_L_wind : ∀ w ∈ [Cond.methodLink RL 158 yL_wind, Cond.static yL_wind, Cond.codeWith yL_wind cL_wind 5 (some .int) hL_wind], w ∈ kx_ws := kx_in_tbl [1181, 1182, 1183] (by decide +kernel) (by decide +kernel)
theorem lL_158 : kx_lS9 RL 158 sL_wind hL_wind 4 := ⟨kx_at_l kxW_L_wind 0 rfl, kx_at_l kxW_L_wind 1 rfl, kx_at_l kxW_L_wind 2 rfl, kx_at_l kxC_L 3 rfl, by decide +kernel, by decide +kernel, by decide +kernel⟩
def bL_wind_0 : List kx_O := [(.aload_n 3, 3, 0, 0, .null), (.iconst 0, 0, 0, 0, .int 0), (.aload_n 0, 0, 0, 0, .null), (.iload_n 1, 1, 0, 0, .null), (.iload_n 2, 2, 0, 0, .null)]
theorem kL_wind_0 : kx_oks kxL_L false cL_wind 0 bL_wind_0 = true := by decide +kernel
def bL_wind_8 : List kx_O := [(.i2l, 0, 0, 0, .null), (.lastore, 0, 0, 0, .null), (.goto 11, 21, 0, 0, .null)]
theorem kL_wind_8 : kx_oks kxL_L false cL_wind 8 bL_wind_8 = true := by decide +kernel
def bL_wind_13 : List kx_O := [(.astore 4, 4, 0, 0, .null), (.iconst 1, 0, 0, 0, .int 1), (.ireturn, 0, 0, 0, .null)]
theorem kL_wind_13 : kx_oks kxL_L false cL_wind 13 bL_wind_13 = true := by decide +kernel
def bL_wind_17 : List kx_O := [(.astore 4, 4, 0, 0, .null), (.iconst 2, 0, 0, 0, .int 2), (.ireturn, 0, 0, 0, .null)]
theorem kL_wind_17 : kx_oks kxL_L false cL_wind 17 bL_wind_17 = true := by decide +kernel
def bL_wind_21 : List kx_O := [(.iconst 0, 0, 0, 0, .int 0), (.ireturn, 0, 0, 0, .null)]
theorem kL_wind_21 : kx_oks kxL_L false cL_wind 21 bL_wind_21 = true := by decide +kernel
theorem dL_wind_5 : decode cL_wind 5 = .ok (.invokevirtual 39, 3) := by decide +kernel
set_option maxHeartbeats 4000000 in
theorem cw_wind_t (l : Launch) (G : kx_G) {P : kx_P} {sz : Nat} {f : Nat → Value} (h64 : P 64 = kO 10 f) {xa xb : Int32} {d mc ms : Nat} {Po : Option Value → kx_P → Nat → Prop} (hM : kx_Mn l G sX10_wind d mc ms (.ref 64 :: [.int xa, .int xb]) P sz Po) (hp : ∀ r P2 s2, Po r P2 s2 → ∃ (v : Value) (go : Nat → Int64), r = some v ∧ cvT sX11_wind v ∧ P2 143 = kL 1 go) : kx_Mw l G sL_wind hL_wind (d + 1) mc ms [.ref 64, .int xa, .int xb, .ref 143] P sz (cPt Po) := by
  refine kx_mkw kx_tab kxLok_L [some (.ref 64), some (.int xa), some (.int xb), some (.ref 143), none] ⟨by decide +kernel, rfl, by omega⟩ rfl (fun r P' s' h => by obtain ⟨v, P2, go, -, h, -⟩ := h; exact ⟨0, h⟩) rfl rfl (fun g hB hC hN hK => ?_)
  refine hB bL_wind_0 _ _ _ _ _ _ _ kL_wind_0 ?_
  dsimp only [bL_wind_0, kx_wp, kx_step, kx_lI, kx_lL, kx_lA, kx_gl, kx_pI, kx_pL, kx_pR, kx_pA, kx_pV, kx_s1, kx_s2, kx_sl, kx_pre, kx_c2, kx_pl, kx_cmp, kx_oF, kx_eqN, kx_nil, kx_c1, kx_ft, kx_aI, kx_aL, kx_aR, kx_ln, Nat.reduceAdd, Option.toList, List.cons_append, List.nil_append]
  refine hN.1 39 _ _ _ _ _ _ _ 10 _ _ _ _ _ _ _ _ _ _ lL_39 hM ⟨by decide, rfl⟩ h64 rfl rfl (Nat.le_of_ble_eq_true rfl) (by omega) (by decide) (by omega) (by omega) dL_wind_5 ?_
  intro r P2 s2 hP2
  obtain ⟨v, go, e1, e2, e3⟩ := hp r P2 s2 hP2
  subst e1
  obtain ⟨x, e4⟩ := e2.2 (by decide)
  subst e4
  dsimp only [Option.toList, List.cons_append, List.nil_append]
  refine hB bL_wind_8 _ _ _ _ _ _ _ kL_wind_8 ?_
  dsimp only [bL_wind_8, kx_wp, kx_step, kx_lI, kx_lL, kx_lA, kx_gl, kx_pI, kx_pL, kx_pR, kx_pA, kx_pV, kx_s1, kx_s2, kx_sl, kx_pre, kx_c2, kx_pl, kx_cmp, kx_oF, kx_eqN, kx_nil, kx_c1, kx_ft, kx_aI, kx_aL, kx_aR, kx_ln, Nat.reduceAdd, Option.toList, List.cons_append, List.nil_append]
  simp only [e3]
  try dsimp only [kx_wp, kx_step, kx_lI, kx_lL, kx_lA, kx_gl, kx_pI, kx_pL, kx_pR, kx_pA, kx_pV, kx_s1, kx_s2, kx_sl, kx_pre, kx_c2, kx_pl, kx_cmp, kx_oF, kx_eqN, kx_nil, kx_c1, kx_ft, kx_aI, kx_aL, kx_aR, kx_ln, Nat.reduceAdd, Option.toList, List.cons_append, List.nil_append]
  refine ⟨by decide, by unfold vp_in; decide, ?_⟩
  refine hB bL_wind_21 _ _ _ _ _ _ _ kL_wind_21 ?_
  dsimp only [bL_wind_21, kx_wp, kx_step, kx_lI, kx_lL, kx_lA, kx_gl, kx_pI, kx_pL, kx_pR, kx_pA, kx_pV, kx_s1, kx_s2, kx_sl, kx_pre, kx_c2, kx_pl, kx_cmp, kx_oF, kx_eqN, kx_nil, kx_c1, kx_ft, kx_aI, kx_aL, kx_aR, kx_ln, Nat.reduceAdd, Option.toList, List.cons_append, List.nil_append]
  exact ⟨_, P2, go, hP2, rfl, e3, rfl⟩

theorem dL_wind_13 : decode cL_wind 13 = .ok (.astore 4, 2) := by decide +kernel
theorem dL_wind_15 : decode cL_wind 15 = .ok (.iconst 1, 1) := by decide +kernel
theorem dL_wind_16 : decode cL_wind 16 = .ok (.ireturn, 1) := by decide +kernel
set_option maxHeartbeats 4000000 in
theorem cw_wind_x0 (l : Launch) (G : kx_G) {P : kx_P} {sz : Nat} {f : Nat → Value} (h64 : P 64 = kO 10 f) {xa xb : Int32} {d : Nat} (hM : kx_X l G sX10_wind d (.ref 64 :: [.int xa, .int xb]) P sz "java/util/NoSuchElementException") : kx_Mw l G sL_wind hL_wind (d + 1) 1 6 [.ref 64, .int xa, .int xb, .ref 143] P sz (cPx P sz 1) := by
  refine kx_mkw kx_tab kxLok_L [some (.ref 64), some (.int xa), some (.int xb), some (.ref 143), none] ⟨by decide +kernel, rfl, by omega⟩ rfl (fun r P' s' h => ⟨_, h.1⟩) rfl rfl (fun g hB hC hN hK => ?_)
  refine hB bL_wind_0 _ _ _ _ _ _ _ kL_wind_0 ?_
  dsimp only [bL_wind_0, kx_wp, kx_step, kx_lI, kx_lL, kx_lA, kx_gl, kx_pI, kx_pL, kx_pR, kx_pA, kx_pV, kx_s1, kx_s2, kx_sl, kx_pre, kx_c2, kx_pl, kx_cmp, kx_oF, kx_eqN, kx_nil, kx_c1, kx_ft, kx_aI, kx_aL, kx_aR, kx_ln, Nat.reduceAdd, Option.toList, List.cons_append, List.nil_append]
  exact hK 39 _ _ _ _ _ 10 _ [.int 0, .ref 143] _ _ _ _ _ "java/util/NoSuchElementException" [] [(0, 10, 17, 13)] (0, 10, 13, 27) 2 1 lL_39 hM ⟨by decide, rfl⟩ h64 rfl rfl (Nat.le_of_ble_eq_true rfl) (by omega) (by decide) (by decide) (by decide) dL_wind_5 rfl (by decide) (by decide) (by decide) (kx_at_l kxC_L 1 rfl) (fun q h => by cases h) (Or.inr ⟨4, dL_wind_13, Nat.le_of_ble_eq_true rfl, rfl⟩) dL_wind_15 dL_wind_16 (fun s2 hs => ⟨rfl, rfl, hs⟩)

theorem dL_wind_17 : decode cL_wind 17 = .ok (.astore 4, 2) := by decide +kernel
theorem dL_wind_19 : decode cL_wind 19 = .ok (.iconst 2, 1) := by decide +kernel
theorem dL_wind_20 : decode cL_wind 20 = .ok (.ireturn, 1) := by decide +kernel
set_option maxHeartbeats 4000000 in
theorem cw_wind_x1 (l : Launch) (G : kx_G) {P : kx_P} {sz : Nat} {f : Nat → Value} (h64 : P 64 = kO 10 f) {xa xb : Int32} {d : Nat} (hM : kx_X l G sX10_wind d (.ref 64 :: [.int xa, .int xb]) P sz "java/lang/IllegalArgumentException") : kx_Mw l G sL_wind hL_wind (d + 1) 1 6 [.ref 64, .int xa, .int xb, .ref 143] P sz (cPx P sz 2) := by
  refine kx_mkw kx_tab kxLok_L [some (.ref 64), some (.int xa), some (.int xb), some (.ref 143), none] ⟨by decide +kernel, rfl, by omega⟩ rfl (fun r P' s' h => ⟨_, h.1⟩) rfl rfl (fun g hB hC hN hK => ?_)
  refine hB bL_wind_0 _ _ _ _ _ _ _ kL_wind_0 ?_
  dsimp only [bL_wind_0, kx_wp, kx_step, kx_lI, kx_lL, kx_lA, kx_gl, kx_pI, kx_pL, kx_pR, kx_pA, kx_pV, kx_s1, kx_s2, kx_sl, kx_pre, kx_c2, kx_pl, kx_cmp, kx_oF, kx_eqN, kx_nil, kx_c1, kx_ft, kx_aI, kx_aL, kx_aR, kx_ln, Nat.reduceAdd, Option.toList, List.cons_append, List.nil_append]
  exact hK 39 _ _ _ _ _ 10 _ [.int 0, .ref 143] _ _ _ _ _ "java/lang/IllegalArgumentException" [(0, 10, 13, 27)] [] (0, 10, 17, 13) 2 2 lL_39 hM ⟨by decide, rfl⟩ h64 rfl rfl (Nat.le_of_ble_eq_true rfl) (by omega) (by decide) (by decide) (by decide) dL_wind_5 rfl (by decide) (by decide) (by decide) (kx_at_l kxC_L 0 rfl) (fun q h => by
    simp only [List.mem_cons, List.not_mem_nil, or_false] at h
    rcases h with rfl
    · exact ⟨by decide, _, kx_at_l kxC_L 1 rfl, by decide⟩) (Or.inr ⟨4, dL_wind_17, Nat.le_of_ble_eq_true rfl, rfl⟩) dL_wind_19 dL_wind_20 (fun s2 hs => ⟨rfl, rfl, hs⟩)

abbrev sL_oil : kx_S := (yL_oil, cL_oil, 4, some .int)
abbrev hL_oil : List (Nat × Nat × Nat × Nat) := [(0, 9, 12, 27)]
theorem kxW_L_oil : ∀ w ∈ [Cond.methodLink RL 161 yL_oil, Cond.static yL_oil, Cond.codeWith yL_oil cL_oil 4 (some .int) hL_oil], w ∈ kx_ws := kx_in_tbl [1189, 1190, 1191] (by decide +kernel) (by decide +kernel)
theorem lL_161 : kx_lS9 RL 161 sL_oil hL_oil 3 := ⟨kx_at_l kxW_L_oil 0 rfl, kx_at_l kxW_L_oil 1 rfl, kx_at_l kxW_L_oil 2 rfl, kx_at_l kxC_L 3 rfl, by decide +kernel, by decide +kernel, by decide +kernel⟩
def bL_oil_0 : List kx_O := [(.aload_n 2, 2, 0, 0, .null), (.iconst 0, 0, 0, 0, .int 0), (.aload_n 0, 0, 0, 0, .null), (.iload_n 1, 1, 0, 0, .null)]
theorem kL_oil_0 : kx_oks kxL_L false cL_oil 0 bL_oil_0 = true := by decide +kernel
def bL_oil_7 : List kx_O := [(.i2l, 0, 0, 0, .null), (.lastore, 0, 0, 0, .null), (.goto 6, 15, 0, 0, .null)]
theorem kL_oil_7 : kx_oks kxL_L false cL_oil 7 bL_oil_7 = true := by decide +kernel
def bL_oil_12 : List kx_O := [(.astore_n 3, 3, 0, 0, .null), (.iconst 1, 0, 0, 0, .int 1), (.ireturn, 0, 0, 0, .null)]
theorem kL_oil_12 : kx_oks kxL_L false cL_oil 12 bL_oil_12 = true := by decide +kernel
def bL_oil_15 : List kx_O := [(.iconst 0, 0, 0, 0, .int 0), (.ireturn, 0, 0, 0, .null)]
theorem kL_oil_15 : kx_oks kxL_L false cL_oil 15 bL_oil_15 = true := by decide +kernel
theorem dL_oil_4 : decode cL_oil 4 = .ok (.invokevirtual 42, 3) := by decide +kernel
set_option maxHeartbeats 4000000 in
theorem cw_oil_t (l : Launch) (G : kx_G) {P : kx_P} {sz : Nat} {f : Nat → Value} (h64 : P 64 = kO 10 f) {xa : Int32} {d mc ms : Nat} {Po : Option Value → kx_P → Nat → Prop} (hM : kx_Mn l G sX10_oil d mc ms (.ref 64 :: [.int xa]) P sz Po) (hp : ∀ r P2 s2, Po r P2 s2 → ∃ (v : Value) (go : Nat → Int64), r = some v ∧ cvT sX11_oil v ∧ P2 143 = kL 1 go) : kx_Mw l G sL_oil hL_oil (d + 1) mc ms [.ref 64, .int xa, .ref 143] P sz (cPt Po) := by
  refine kx_mkw kx_tab kxLok_L [some (.ref 64), some (.int xa), some (.ref 143), none] ⟨by decide +kernel, rfl, by omega⟩ rfl (fun r P' s' h => by obtain ⟨v, P2, go, -, h, -⟩ := h; exact ⟨0, h⟩) rfl rfl (fun g hB hC hN hK => ?_)
  refine hB bL_oil_0 _ _ _ _ _ _ _ kL_oil_0 ?_
  dsimp only [bL_oil_0, kx_wp, kx_step, kx_lI, kx_lL, kx_lA, kx_gl, kx_pI, kx_pL, kx_pR, kx_pA, kx_pV, kx_s1, kx_s2, kx_sl, kx_pre, kx_c2, kx_pl, kx_cmp, kx_oF, kx_eqN, kx_nil, kx_c1, kx_ft, kx_aI, kx_aL, kx_aR, kx_ln, Nat.reduceAdd, Option.toList, List.cons_append, List.nil_append]
  refine hN.1 42 _ _ _ _ _ _ _ 10 _ _ _ _ _ _ _ _ _ _ lL_42 hM ⟨by decide, rfl⟩ h64 rfl rfl (Nat.le_of_ble_eq_true rfl) (by omega) (by decide) (by omega) (by omega) dL_oil_4 ?_
  intro r P2 s2 hP2
  obtain ⟨v, go, e1, e2, e3⟩ := hp r P2 s2 hP2
  subst e1
  obtain ⟨x, e4⟩ := e2.2 (by decide)
  subst e4
  dsimp only [Option.toList, List.cons_append, List.nil_append]
  refine hB bL_oil_7 _ _ _ _ _ _ _ kL_oil_7 ?_
  dsimp only [bL_oil_7, kx_wp, kx_step, kx_lI, kx_lL, kx_lA, kx_gl, kx_pI, kx_pL, kx_pR, kx_pA, kx_pV, kx_s1, kx_s2, kx_sl, kx_pre, kx_c2, kx_pl, kx_cmp, kx_oF, kx_eqN, kx_nil, kx_c1, kx_ft, kx_aI, kx_aL, kx_aR, kx_ln, Nat.reduceAdd, Option.toList, List.cons_append, List.nil_append]
  simp only [e3]
  try dsimp only [kx_wp, kx_step, kx_lI, kx_lL, kx_lA, kx_gl, kx_pI, kx_pL, kx_pR, kx_pA, kx_pV, kx_s1, kx_s2, kx_sl, kx_pre, kx_c2, kx_pl, kx_cmp, kx_oF, kx_eqN, kx_nil, kx_c1, kx_ft, kx_aI, kx_aL, kx_aR, kx_ln, Nat.reduceAdd, Option.toList, List.cons_append, List.nil_append]
  refine ⟨by decide, by unfold vp_in; decide, ?_⟩
  refine hB bL_oil_15 _ _ _ _ _ _ _ kL_oil_15 ?_
  dsimp only [bL_oil_15, kx_wp, kx_step, kx_lI, kx_lL, kx_lA, kx_gl, kx_pI, kx_pL, kx_pR, kx_pA, kx_pV, kx_s1, kx_s2, kx_sl, kx_pre, kx_c2, kx_pl, kx_cmp, kx_oF, kx_eqN, kx_nil, kx_c1, kx_ft, kx_aI, kx_aL, kx_aR, kx_ln, Nat.reduceAdd, Option.toList, List.cons_append, List.nil_append]
  exact ⟨_, P2, go, hP2, rfl, e3, rfl⟩

theorem dL_oil_12 : decode cL_oil 12 = .ok (.astore_n 3, 1) := by decide +kernel
theorem dL_oil_13 : decode cL_oil 13 = .ok (.iconst 1, 1) := by decide +kernel
theorem dL_oil_14 : decode cL_oil 14 = .ok (.ireturn, 1) := by decide +kernel
set_option maxHeartbeats 4000000 in
theorem cw_oil_x0 (l : Launch) (G : kx_G) {P : kx_P} {sz : Nat} {f : Nat → Value} (h64 : P 64 = kO 10 f) {xa : Int32} {d : Nat} (hM : kx_X l G sX10_oil d (.ref 64 :: [.int xa]) P sz "java/util/NoSuchElementException") : kx_Mw l G sL_oil hL_oil (d + 1) 1 6 [.ref 64, .int xa, .ref 143] P sz (cPx P sz 1) := by
  refine kx_mkw kx_tab kxLok_L [some (.ref 64), some (.int xa), some (.ref 143), none] ⟨by decide +kernel, rfl, by omega⟩ rfl (fun r P' s' h => ⟨_, h.1⟩) rfl rfl (fun g hB hC hN hK => ?_)
  refine hB bL_oil_0 _ _ _ _ _ _ _ kL_oil_0 ?_
  dsimp only [bL_oil_0, kx_wp, kx_step, kx_lI, kx_lL, kx_lA, kx_gl, kx_pI, kx_pL, kx_pR, kx_pA, kx_pV, kx_s1, kx_s2, kx_sl, kx_pre, kx_c2, kx_pl, kx_cmp, kx_oF, kx_eqN, kx_nil, kx_c1, kx_ft, kx_aI, kx_aL, kx_aR, kx_ln, Nat.reduceAdd, Option.toList, List.cons_append, List.nil_append]
  exact hK 42 _ _ _ _ _ 10 _ [.int 0, .ref 143] _ _ _ _ _ "java/util/NoSuchElementException" [] [] (0, 9, 12, 27) 1 1 lL_42 hM ⟨by decide, rfl⟩ h64 rfl rfl (Nat.le_of_ble_eq_true rfl) (by omega) (by decide) (by decide) (by decide) dL_oil_4 rfl (by decide) (by decide) (by decide) (kx_at_l kxC_L 1 rfl) (fun q h => by cases h) (Or.inl ⟨3, dL_oil_12, Nat.le_of_ble_eq_true rfl, rfl⟩) dL_oil_13 dL_oil_14 (fun s2 hs => ⟨rfl, rfl, hs⟩)

abbrev sL_hands : kx_S := (yL_hands, cL_hands, 6, some .int)
abbrev hL_hands : List (Nat × Nat × Nat × Nat) := [(0, 12, 15, 27), (0, 12, 19, 13)]
theorem kxW_L_hands : ∀ w ∈ [Cond.methodLink RL 164 yL_hands, Cond.static yL_hands, Cond.codeWith yL_hands cL_hands 6 (some .int) hL_hands], w ∈ kx_ws := kx_in_tbl [1197, 1198, 1199] (by decide +kernel) (by decide +kernel)
theorem lL_164 : kx_lS9 RL 164 sL_hands hL_hands 5 := ⟨kx_at_l kxW_L_hands 0 rfl, kx_at_l kxW_L_hands 1 rfl, kx_at_l kxW_L_hands 2 rfl, kx_at_l kxC_L 3 rfl, by decide +kernel, by decide +kernel, by decide +kernel⟩
def bL_hands_0 : List kx_O := [(.aload 4, 4, 0, 0, .null), (.iconst 0, 0, 0, 0, .int 0), (.aload_n 0, 0, 0, 0, .null), (.iload_n 1, 1, 0, 0, .null), (.iload_n 2, 2, 0, 0, .null), (.iload_n 3, 3, 0, 0, .null)]
theorem kL_hands_0 : kx_oks kxL_L false cL_hands 0 bL_hands_0 = true := by decide +kernel
def bL_hands_10 : List kx_O := [(.i2l, 0, 0, 0, .null), (.lastore, 0, 0, 0, .null), (.goto 11, 23, 0, 0, .null)]
theorem kL_hands_10 : kx_oks kxL_L false cL_hands 10 bL_hands_10 = true := by decide +kernel
def bL_hands_15 : List kx_O := [(.astore 5, 5, 0, 0, .null), (.iconst 1, 0, 0, 0, .int 1), (.ireturn, 0, 0, 0, .null)]
theorem kL_hands_15 : kx_oks kxL_L false cL_hands 15 bL_hands_15 = true := by decide +kernel
def bL_hands_19 : List kx_O := [(.astore 5, 5, 0, 0, .null), (.iconst 2, 0, 0, 0, .int 2), (.ireturn, 0, 0, 0, .null)]
theorem kL_hands_19 : kx_oks kxL_L false cL_hands 19 bL_hands_19 = true := by decide +kernel
def bL_hands_23 : List kx_O := [(.iconst 0, 0, 0, 0, .int 0), (.ireturn, 0, 0, 0, .null)]
theorem kL_hands_23 : kx_oks kxL_L false cL_hands 23 bL_hands_23 = true := by decide +kernel
theorem dL_hands_7 : decode cL_hands 7 = .ok (.invokevirtual 45, 3) := by decide +kernel
set_option maxHeartbeats 4000000 in
theorem cw_hands_t (l : Launch) (G : kx_G) {P : kx_P} {sz : Nat} {f : Nat → Value} (h64 : P 64 = kO 10 f) {xa xb xc : Int32} {d mc ms : Nat} {Po : Option Value → kx_P → Nat → Prop} (hM : kx_Mn l G sX10_hands d mc ms (.ref 64 :: [.int xa, .int xb, .int xc]) P sz Po) (hp : ∀ r P2 s2, Po r P2 s2 → ∃ (v : Value) (go : Nat → Int64), r = some v ∧ cvT sX11_hands v ∧ P2 143 = kL 1 go) : kx_Mw l G sL_hands hL_hands (d + 1) mc ms [.ref 64, .int xa, .int xb, .int xc, .ref 143] P sz (cPt Po) := by
  refine kx_mkw kx_tab kxLok_L [some (.ref 64), some (.int xa), some (.int xb), some (.int xc), some (.ref 143), none] ⟨by decide +kernel, rfl, by omega⟩ rfl (fun r P' s' h => by obtain ⟨v, P2, go, -, h, -⟩ := h; exact ⟨0, h⟩) rfl rfl (fun g hB hC hN hK => ?_)
  refine hB bL_hands_0 _ _ _ _ _ _ _ kL_hands_0 ?_
  dsimp only [bL_hands_0, kx_wp, kx_step, kx_lI, kx_lL, kx_lA, kx_gl, kx_pI, kx_pL, kx_pR, kx_pA, kx_pV, kx_s1, kx_s2, kx_sl, kx_pre, kx_c2, kx_pl, kx_cmp, kx_oF, kx_eqN, kx_nil, kx_c1, kx_ft, kx_aI, kx_aL, kx_aR, kx_ln, Nat.reduceAdd, Option.toList, List.cons_append, List.nil_append]
  refine hN.1 45 _ _ _ _ _ _ _ 10 _ _ _ _ _ _ _ _ _ _ lL_45 hM ⟨by decide, rfl⟩ h64 rfl rfl (Nat.le_of_ble_eq_true rfl) (by omega) (by decide) (by omega) (by omega) dL_hands_7 ?_
  intro r P2 s2 hP2
  obtain ⟨v, go, e1, e2, e3⟩ := hp r P2 s2 hP2
  subst e1
  obtain ⟨x, e4⟩ := e2.2 (by decide)
  subst e4
  dsimp only [Option.toList, List.cons_append, List.nil_append]
  refine hB bL_hands_10 _ _ _ _ _ _ _ kL_hands_10 ?_
  dsimp only [bL_hands_10, kx_wp, kx_step, kx_lI, kx_lL, kx_lA, kx_gl, kx_pI, kx_pL, kx_pR, kx_pA, kx_pV, kx_s1, kx_s2, kx_sl, kx_pre, kx_c2, kx_pl, kx_cmp, kx_oF, kx_eqN, kx_nil, kx_c1, kx_ft, kx_aI, kx_aL, kx_aR, kx_ln, Nat.reduceAdd, Option.toList, List.cons_append, List.nil_append]
  simp only [e3]
  try dsimp only [kx_wp, kx_step, kx_lI, kx_lL, kx_lA, kx_gl, kx_pI, kx_pL, kx_pR, kx_pA, kx_pV, kx_s1, kx_s2, kx_sl, kx_pre, kx_c2, kx_pl, kx_cmp, kx_oF, kx_eqN, kx_nil, kx_c1, kx_ft, kx_aI, kx_aL, kx_aR, kx_ln, Nat.reduceAdd, Option.toList, List.cons_append, List.nil_append]
  refine ⟨by decide, by unfold vp_in; decide, ?_⟩
  refine hB bL_hands_23 _ _ _ _ _ _ _ kL_hands_23 ?_
  dsimp only [bL_hands_23, kx_wp, kx_step, kx_lI, kx_lL, kx_lA, kx_gl, kx_pI, kx_pL, kx_pR, kx_pA, kx_pV, kx_s1, kx_s2, kx_sl, kx_pre, kx_c2, kx_pl, kx_cmp, kx_oF, kx_eqN, kx_nil, kx_c1, kx_ft, kx_aI, kx_aL, kx_aR, kx_ln, Nat.reduceAdd, Option.toList, List.cons_append, List.nil_append]
  exact ⟨_, P2, go, hP2, rfl, e3, rfl⟩

theorem dL_hands_15 : decode cL_hands 15 = .ok (.astore 5, 2) := by decide +kernel
theorem dL_hands_17 : decode cL_hands 17 = .ok (.iconst 1, 1) := by decide +kernel
theorem dL_hands_18 : decode cL_hands 18 = .ok (.ireturn, 1) := by decide +kernel
set_option maxHeartbeats 4000000 in
theorem cw_hands_x0 (l : Launch) (G : kx_G) {P : kx_P} {sz : Nat} {f : Nat → Value} (h64 : P 64 = kO 10 f) {xa xb xc : Int32} {d : Nat} (hM : kx_X l G sX10_hands d (.ref 64 :: [.int xa, .int xb, .int xc]) P sz "java/util/NoSuchElementException") : kx_Mw l G sL_hands hL_hands (d + 1) 1 6 [.ref 64, .int xa, .int xb, .int xc, .ref 143] P sz (cPx P sz 1) := by
  refine kx_mkw kx_tab kxLok_L [some (.ref 64), some (.int xa), some (.int xb), some (.int xc), some (.ref 143), none] ⟨by decide +kernel, rfl, by omega⟩ rfl (fun r P' s' h => ⟨_, h.1⟩) rfl rfl (fun g hB hC hN hK => ?_)
  refine hB bL_hands_0 _ _ _ _ _ _ _ kL_hands_0 ?_
  dsimp only [bL_hands_0, kx_wp, kx_step, kx_lI, kx_lL, kx_lA, kx_gl, kx_pI, kx_pL, kx_pR, kx_pA, kx_pV, kx_s1, kx_s2, kx_sl, kx_pre, kx_c2, kx_pl, kx_cmp, kx_oF, kx_eqN, kx_nil, kx_c1, kx_ft, kx_aI, kx_aL, kx_aR, kx_ln, Nat.reduceAdd, Option.toList, List.cons_append, List.nil_append]
  exact hK 45 _ _ _ _ _ 10 _ [.int 0, .ref 143] _ _ _ _ _ "java/util/NoSuchElementException" [] [(0, 12, 19, 13)] (0, 12, 15, 27) 2 1 lL_45 hM ⟨by decide, rfl⟩ h64 rfl rfl (Nat.le_of_ble_eq_true rfl) (by omega) (by decide) (by decide) (by decide) dL_hands_7 rfl (by decide) (by decide) (by decide) (kx_at_l kxC_L 1 rfl) (fun q h => by cases h) (Or.inr ⟨5, dL_hands_15, Nat.le_of_ble_eq_true rfl, rfl⟩) dL_hands_17 dL_hands_18 (fun s2 hs => ⟨rfl, rfl, hs⟩)

theorem dL_hands_19 : decode cL_hands 19 = .ok (.astore 5, 2) := by decide +kernel
theorem dL_hands_21 : decode cL_hands 21 = .ok (.iconst 2, 1) := by decide +kernel
theorem dL_hands_22 : decode cL_hands 22 = .ok (.ireturn, 1) := by decide +kernel
set_option maxHeartbeats 4000000 in
theorem cw_hands_x1 (l : Launch) (G : kx_G) {P : kx_P} {sz : Nat} {f : Nat → Value} (h64 : P 64 = kO 10 f) {xa xb xc : Int32} {d : Nat} (hM : kx_X l G sX10_hands d (.ref 64 :: [.int xa, .int xb, .int xc]) P sz "java/lang/IllegalArgumentException") : kx_Mw l G sL_hands hL_hands (d + 1) 1 6 [.ref 64, .int xa, .int xb, .int xc, .ref 143] P sz (cPx P sz 2) := by
  refine kx_mkw kx_tab kxLok_L [some (.ref 64), some (.int xa), some (.int xb), some (.int xc), some (.ref 143), none] ⟨by decide +kernel, rfl, by omega⟩ rfl (fun r P' s' h => ⟨_, h.1⟩) rfl rfl (fun g hB hC hN hK => ?_)
  refine hB bL_hands_0 _ _ _ _ _ _ _ kL_hands_0 ?_
  dsimp only [bL_hands_0, kx_wp, kx_step, kx_lI, kx_lL, kx_lA, kx_gl, kx_pI, kx_pL, kx_pR, kx_pA, kx_pV, kx_s1, kx_s2, kx_sl, kx_pre, kx_c2, kx_pl, kx_cmp, kx_oF, kx_eqN, kx_nil, kx_c1, kx_ft, kx_aI, kx_aL, kx_aR, kx_ln, Nat.reduceAdd, Option.toList, List.cons_append, List.nil_append]
  exact hK 45 _ _ _ _ _ 10 _ [.int 0, .ref 143] _ _ _ _ _ "java/lang/IllegalArgumentException" [(0, 12, 15, 27)] [] (0, 12, 19, 13) 2 2 lL_45 hM ⟨by decide, rfl⟩ h64 rfl rfl (Nat.le_of_ble_eq_true rfl) (by omega) (by decide) (by decide) (by decide) dL_hands_7 rfl (by decide) (by decide) (by decide) (kx_at_l kxC_L 0 rfl) (fun q h => by
    simp only [List.mem_cons, List.not_mem_nil, or_false] at h
    rcases h with rfl
    · exact ⟨by decide, _, kx_at_l kxC_L 1 rfl, by decide⟩) (Or.inr ⟨5, dL_hands_19, Nat.le_of_ble_eq_true rfl, rfl⟩) dL_hands_21 dL_hands_22 (fun s2 hs => ⟨rfl, rfl, hs⟩)

abbrev sL_date : kx_S := (yL_date, cL_date, 4, some .int)
abbrev hL_date : List (Nat × Nat × Nat × Nat) := [(0, 9, 12, 27)]
theorem kxW_L_date : ∀ w ∈ [Cond.methodLink RL 168 yL_date, Cond.static yL_date, Cond.codeWith yL_date cL_date 4 (some .int) hL_date], w ∈ kx_ws := kx_in_tbl [1210, 1211, 1212] (by decide +kernel) (by decide +kernel)
theorem lL_168 : kx_lS9 RL 168 sL_date hL_date 3 := ⟨kx_at_l kxW_L_date 0 rfl, kx_at_l kxW_L_date 1 rfl, kx_at_l kxW_L_date 2 rfl, kx_at_l kxC_L 3 rfl, by decide +kernel, by decide +kernel, by decide +kernel⟩
def bL_date_0 : List kx_O := [(.aload_n 2, 2, 0, 0, .null), (.iconst 0, 0, 0, 0, .int 0), (.aload_n 0, 0, 0, 0, .null), (.iload_n 1, 1, 0, 0, .null)]
theorem kL_date_0 : kx_oks kxL_L false cL_date 0 bL_date_0 = true := by decide +kernel
def bL_date_7 : List kx_O := [(.i2l, 0, 0, 0, .null), (.lastore, 0, 0, 0, .null), (.goto 6, 15, 0, 0, .null)]
theorem kL_date_7 : kx_oks kxL_L false cL_date 7 bL_date_7 = true := by decide +kernel
def bL_date_12 : List kx_O := [(.astore_n 3, 3, 0, 0, .null), (.iconst 1, 0, 0, 0, .int 1), (.ireturn, 0, 0, 0, .null)]
theorem kL_date_12 : kx_oks kxL_L false cL_date 12 bL_date_12 = true := by decide +kernel
def bL_date_15 : List kx_O := [(.iconst 0, 0, 0, 0, .int 0), (.ireturn, 0, 0, 0, .null)]
theorem kL_date_15 : kx_oks kxL_L false cL_date 15 bL_date_15 = true := by decide +kernel
theorem dL_date_4 : decode cL_date 4 = .ok (.invokevirtual 49, 3) := by decide +kernel
set_option maxHeartbeats 4000000 in
theorem cw_date_t (l : Launch) (G : kx_G) {P : kx_P} {sz : Nat} {f : Nat → Value} (h64 : P 64 = kO 10 f) {xa : Int32} {d mc ms : Nat} {Po : Option Value → kx_P → Nat → Prop} (hM : kx_Mn l G sX10_date d mc ms (.ref 64 :: [.int xa]) P sz Po) (hp : ∀ r P2 s2, Po r P2 s2 → ∃ (v : Value) (go : Nat → Int64), r = some v ∧ cvT sX11_date v ∧ P2 143 = kL 1 go) : kx_Mw l G sL_date hL_date (d + 1) mc ms [.ref 64, .int xa, .ref 143] P sz (cPt Po) := by
  refine kx_mkw kx_tab kxLok_L [some (.ref 64), some (.int xa), some (.ref 143), none] ⟨by decide +kernel, rfl, by omega⟩ rfl (fun r P' s' h => by obtain ⟨v, P2, go, -, h, -⟩ := h; exact ⟨0, h⟩) rfl rfl (fun g hB hC hN hK => ?_)
  refine hB bL_date_0 _ _ _ _ _ _ _ kL_date_0 ?_
  dsimp only [bL_date_0, kx_wp, kx_step, kx_lI, kx_lL, kx_lA, kx_gl, kx_pI, kx_pL, kx_pR, kx_pA, kx_pV, kx_s1, kx_s2, kx_sl, kx_pre, kx_c2, kx_pl, kx_cmp, kx_oF, kx_eqN, kx_nil, kx_c1, kx_ft, kx_aI, kx_aL, kx_aR, kx_ln, Nat.reduceAdd, Option.toList, List.cons_append, List.nil_append]
  refine hN.1 49 _ _ _ _ _ _ _ 10 _ _ _ _ _ _ _ _ _ _ lL_49 hM ⟨by decide, rfl⟩ h64 rfl rfl (Nat.le_of_ble_eq_true rfl) (by omega) (by decide) (by omega) (by omega) dL_date_4 ?_
  intro r P2 s2 hP2
  obtain ⟨v, go, e1, e2, e3⟩ := hp r P2 s2 hP2
  subst e1
  obtain ⟨x, e4⟩ := e2.2 (by decide)
  subst e4
  dsimp only [Option.toList, List.cons_append, List.nil_append]
  refine hB bL_date_7 _ _ _ _ _ _ _ kL_date_7 ?_
  dsimp only [bL_date_7, kx_wp, kx_step, kx_lI, kx_lL, kx_lA, kx_gl, kx_pI, kx_pL, kx_pR, kx_pA, kx_pV, kx_s1, kx_s2, kx_sl, kx_pre, kx_c2, kx_pl, kx_cmp, kx_oF, kx_eqN, kx_nil, kx_c1, kx_ft, kx_aI, kx_aL, kx_aR, kx_ln, Nat.reduceAdd, Option.toList, List.cons_append, List.nil_append]
  simp only [e3]
  try dsimp only [kx_wp, kx_step, kx_lI, kx_lL, kx_lA, kx_gl, kx_pI, kx_pL, kx_pR, kx_pA, kx_pV, kx_s1, kx_s2, kx_sl, kx_pre, kx_c2, kx_pl, kx_cmp, kx_oF, kx_eqN, kx_nil, kx_c1, kx_ft, kx_aI, kx_aL, kx_aR, kx_ln, Nat.reduceAdd, Option.toList, List.cons_append, List.nil_append]
  refine ⟨by decide, by unfold vp_in; decide, ?_⟩
  refine hB bL_date_15 _ _ _ _ _ _ _ kL_date_15 ?_
  dsimp only [bL_date_15, kx_wp, kx_step, kx_lI, kx_lL, kx_lA, kx_gl, kx_pI, kx_pL, kx_pR, kx_pA, kx_pV, kx_s1, kx_s2, kx_sl, kx_pre, kx_c2, kx_pl, kx_cmp, kx_oF, kx_eqN, kx_nil, kx_c1, kx_ft, kx_aI, kx_aL, kx_aR, kx_ln, Nat.reduceAdd, Option.toList, List.cons_append, List.nil_append]
  exact ⟨_, P2, go, hP2, rfl, e3, rfl⟩

theorem dL_date_12 : decode cL_date 12 = .ok (.astore_n 3, 1) := by decide +kernel
theorem dL_date_13 : decode cL_date 13 = .ok (.iconst 1, 1) := by decide +kernel
theorem dL_date_14 : decode cL_date 14 = .ok (.ireturn, 1) := by decide +kernel
set_option maxHeartbeats 4000000 in
theorem cw_date_x0 (l : Launch) (G : kx_G) {P : kx_P} {sz : Nat} {f : Nat → Value} (h64 : P 64 = kO 10 f) {xa : Int32} {d : Nat} (hM : kx_X l G sX10_date d (.ref 64 :: [.int xa]) P sz "java/util/NoSuchElementException") : kx_Mw l G sL_date hL_date (d + 1) 1 6 [.ref 64, .int xa, .ref 143] P sz (cPx P sz 1) := by
  refine kx_mkw kx_tab kxLok_L [some (.ref 64), some (.int xa), some (.ref 143), none] ⟨by decide +kernel, rfl, by omega⟩ rfl (fun r P' s' h => ⟨_, h.1⟩) rfl rfl (fun g hB hC hN hK => ?_)
  refine hB bL_date_0 _ _ _ _ _ _ _ kL_date_0 ?_
  dsimp only [bL_date_0, kx_wp, kx_step, kx_lI, kx_lL, kx_lA, kx_gl, kx_pI, kx_pL, kx_pR, kx_pA, kx_pV, kx_s1, kx_s2, kx_sl, kx_pre, kx_c2, kx_pl, kx_cmp, kx_oF, kx_eqN, kx_nil, kx_c1, kx_ft, kx_aI, kx_aL, kx_aR, kx_ln, Nat.reduceAdd, Option.toList, List.cons_append, List.nil_append]
  exact hK 49 _ _ _ _ _ 10 _ [.int 0, .ref 143] _ _ _ _ _ "java/util/NoSuchElementException" [] [] (0, 9, 12, 27) 1 1 lL_49 hM ⟨by decide, rfl⟩ h64 rfl rfl (Nat.le_of_ble_eq_true rfl) (by omega) (by decide) (by decide) (by decide) dL_date_4 rfl (by decide) (by decide) (by decide) (kx_at_l kxC_L 1 rfl) (fun q h => by cases h) (Or.inl ⟨3, dL_date_12, Nat.le_of_ble_eq_true rfl, rfl⟩) dL_date_13 dL_date_14 (fun s2 hs => ⟨rfl, rfl, hs⟩)

abbrev sL_pennies : kx_S := (yL_pennies, cL_pennies, 5, some .int)
abbrev hL_pennies : List (Nat × Nat × Nat × Nat) := [(0, 10, 13, 27), (0, 10, 17, 13)]
theorem kxW_L_pennies : ∀ w ∈ [Cond.methodLink RL 171 yL_pennies, Cond.static yL_pennies, Cond.codeWith yL_pennies cL_pennies 5 (some .int) hL_pennies], w ∈ kx_ws := kx_in_tbl [1218, 1219, 1220] (by decide +kernel) (by decide +kernel)
theorem lL_171 : kx_lS9 RL 171 sL_pennies hL_pennies 4 := ⟨kx_at_l kxW_L_pennies 0 rfl, kx_at_l kxW_L_pennies 1 rfl, kx_at_l kxW_L_pennies 2 rfl, kx_at_l kxC_L 3 rfl, by decide +kernel, by decide +kernel, by decide +kernel⟩
def bL_pennies_0 : List kx_O := [(.aload_n 3, 3, 0, 0, .null), (.iconst 0, 0, 0, 0, .int 0), (.aload_n 0, 0, 0, 0, .null), (.iload_n 1, 1, 0, 0, .null), (.iload_n 2, 2, 0, 0, .null)]
theorem kL_pennies_0 : kx_oks kxL_L false cL_pennies 0 bL_pennies_0 = true := by decide +kernel
def bL_pennies_8 : List kx_O := [(.i2l, 0, 0, 0, .null), (.lastore, 0, 0, 0, .null), (.goto 11, 21, 0, 0, .null)]
theorem kL_pennies_8 : kx_oks kxL_L false cL_pennies 8 bL_pennies_8 = true := by decide +kernel
def bL_pennies_13 : List kx_O := [(.astore 4, 4, 0, 0, .null), (.iconst 1, 0, 0, 0, .int 1), (.ireturn, 0, 0, 0, .null)]
theorem kL_pennies_13 : kx_oks kxL_L false cL_pennies 13 bL_pennies_13 = true := by decide +kernel
def bL_pennies_17 : List kx_O := [(.astore 4, 4, 0, 0, .null), (.iconst 2, 0, 0, 0, .int 2), (.ireturn, 0, 0, 0, .null)]
theorem kL_pennies_17 : kx_oks kxL_L false cL_pennies 17 bL_pennies_17 = true := by decide +kernel
def bL_pennies_21 : List kx_O := [(.iconst 0, 0, 0, 0, .int 0), (.ireturn, 0, 0, 0, .null)]
theorem kL_pennies_21 : kx_oks kxL_L false cL_pennies 21 bL_pennies_21 = true := by decide +kernel
theorem dL_pennies_5 : decode cL_pennies 5 = .ok (.invokevirtual 52, 3) := by decide +kernel
set_option maxHeartbeats 4000000 in
theorem cw_pennies_t (l : Launch) (G : kx_G) {P : kx_P} {sz : Nat} {f : Nat → Value} (h64 : P 64 = kO 10 f) {xa xb : Int32} {d mc ms : Nat} {Po : Option Value → kx_P → Nat → Prop} (hM : kx_Mn l G sX10_pennies d mc ms (.ref 64 :: [.int xa, .int xb]) P sz Po) (hp : ∀ r P2 s2, Po r P2 s2 → ∃ (v : Value) (go : Nat → Int64), r = some v ∧ cvT sX11_pennies v ∧ P2 143 = kL 1 go) : kx_Mw l G sL_pennies hL_pennies (d + 1) mc ms [.ref 64, .int xa, .int xb, .ref 143] P sz (cPt Po) := by
  refine kx_mkw kx_tab kxLok_L [some (.ref 64), some (.int xa), some (.int xb), some (.ref 143), none] ⟨by decide +kernel, rfl, by omega⟩ rfl (fun r P' s' h => by obtain ⟨v, P2, go, -, h, -⟩ := h; exact ⟨0, h⟩) rfl rfl (fun g hB hC hN hK => ?_)
  refine hB bL_pennies_0 _ _ _ _ _ _ _ kL_pennies_0 ?_
  dsimp only [bL_pennies_0, kx_wp, kx_step, kx_lI, kx_lL, kx_lA, kx_gl, kx_pI, kx_pL, kx_pR, kx_pA, kx_pV, kx_s1, kx_s2, kx_sl, kx_pre, kx_c2, kx_pl, kx_cmp, kx_oF, kx_eqN, kx_nil, kx_c1, kx_ft, kx_aI, kx_aL, kx_aR, kx_ln, Nat.reduceAdd, Option.toList, List.cons_append, List.nil_append]
  refine hN.1 52 _ _ _ _ _ _ _ 10 _ _ _ _ _ _ _ _ _ _ lL_52 hM ⟨by decide, rfl⟩ h64 rfl rfl (Nat.le_of_ble_eq_true rfl) (by omega) (by decide) (by omega) (by omega) dL_pennies_5 ?_
  intro r P2 s2 hP2
  obtain ⟨v, go, e1, e2, e3⟩ := hp r P2 s2 hP2
  subst e1
  obtain ⟨x, e4⟩ := e2.2 (by decide)
  subst e4
  dsimp only [Option.toList, List.cons_append, List.nil_append]
  refine hB bL_pennies_8 _ _ _ _ _ _ _ kL_pennies_8 ?_
  dsimp only [bL_pennies_8, kx_wp, kx_step, kx_lI, kx_lL, kx_lA, kx_gl, kx_pI, kx_pL, kx_pR, kx_pA, kx_pV, kx_s1, kx_s2, kx_sl, kx_pre, kx_c2, kx_pl, kx_cmp, kx_oF, kx_eqN, kx_nil, kx_c1, kx_ft, kx_aI, kx_aL, kx_aR, kx_ln, Nat.reduceAdd, Option.toList, List.cons_append, List.nil_append]
  simp only [e3]
  try dsimp only [kx_wp, kx_step, kx_lI, kx_lL, kx_lA, kx_gl, kx_pI, kx_pL, kx_pR, kx_pA, kx_pV, kx_s1, kx_s2, kx_sl, kx_pre, kx_c2, kx_pl, kx_cmp, kx_oF, kx_eqN, kx_nil, kx_c1, kx_ft, kx_aI, kx_aL, kx_aR, kx_ln, Nat.reduceAdd, Option.toList, List.cons_append, List.nil_append]
  refine ⟨by decide, by unfold vp_in; decide, ?_⟩
  refine hB bL_pennies_21 _ _ _ _ _ _ _ kL_pennies_21 ?_
  dsimp only [bL_pennies_21, kx_wp, kx_step, kx_lI, kx_lL, kx_lA, kx_gl, kx_pI, kx_pL, kx_pR, kx_pA, kx_pV, kx_s1, kx_s2, kx_sl, kx_pre, kx_c2, kx_pl, kx_cmp, kx_oF, kx_eqN, kx_nil, kx_c1, kx_ft, kx_aI, kx_aL, kx_aR, kx_ln, Nat.reduceAdd, Option.toList, List.cons_append, List.nil_append]
  exact ⟨_, P2, go, hP2, rfl, e3, rfl⟩

theorem dL_pennies_13 : decode cL_pennies 13 = .ok (.astore 4, 2) := by decide +kernel
theorem dL_pennies_15 : decode cL_pennies 15 = .ok (.iconst 1, 1) := by decide +kernel
theorem dL_pennies_16 : decode cL_pennies 16 = .ok (.ireturn, 1) := by decide +kernel
set_option maxHeartbeats 4000000 in
theorem cw_pennies_x0 (l : Launch) (G : kx_G) {P : kx_P} {sz : Nat} {f : Nat → Value} (h64 : P 64 = kO 10 f) {xa xb : Int32} {d : Nat} (hM : kx_X l G sX10_pennies d (.ref 64 :: [.int xa, .int xb]) P sz "java/util/NoSuchElementException") : kx_Mw l G sL_pennies hL_pennies (d + 1) 1 6 [.ref 64, .int xa, .int xb, .ref 143] P sz (cPx P sz 1) := by
  refine kx_mkw kx_tab kxLok_L [some (.ref 64), some (.int xa), some (.int xb), some (.ref 143), none] ⟨by decide +kernel, rfl, by omega⟩ rfl (fun r P' s' h => ⟨_, h.1⟩) rfl rfl (fun g hB hC hN hK => ?_)
  refine hB bL_pennies_0 _ _ _ _ _ _ _ kL_pennies_0 ?_
  dsimp only [bL_pennies_0, kx_wp, kx_step, kx_lI, kx_lL, kx_lA, kx_gl, kx_pI, kx_pL, kx_pR, kx_pA, kx_pV, kx_s1, kx_s2, kx_sl, kx_pre, kx_c2, kx_pl, kx_cmp, kx_oF, kx_eqN, kx_nil, kx_c1, kx_ft, kx_aI, kx_aL, kx_aR, kx_ln, Nat.reduceAdd, Option.toList, List.cons_append, List.nil_append]
  exact hK 52 _ _ _ _ _ 10 _ [.int 0, .ref 143] _ _ _ _ _ "java/util/NoSuchElementException" [] [(0, 10, 17, 13)] (0, 10, 13, 27) 2 1 lL_52 hM ⟨by decide, rfl⟩ h64 rfl rfl (Nat.le_of_ble_eq_true rfl) (by omega) (by decide) (by decide) (by decide) dL_pennies_5 rfl (by decide) (by decide) (by decide) (kx_at_l kxC_L 1 rfl) (fun q h => by cases h) (Or.inr ⟨4, dL_pennies_13, Nat.le_of_ble_eq_true rfl, rfl⟩) dL_pennies_15 dL_pennies_16 (fun s2 hs => ⟨rfl, rfl, hs⟩)

theorem dL_pennies_17 : decode cL_pennies 17 = .ok (.astore 4, 2) := by decide +kernel
theorem dL_pennies_19 : decode cL_pennies 19 = .ok (.iconst 2, 1) := by decide +kernel
theorem dL_pennies_20 : decode cL_pennies 20 = .ok (.ireturn, 1) := by decide +kernel
set_option maxHeartbeats 4000000 in
theorem cw_pennies_x1 (l : Launch) (G : kx_G) {P : kx_P} {sz : Nat} {f : Nat → Value} (h64 : P 64 = kO 10 f) {xa xb : Int32} {d : Nat} (hM : kx_X l G sX10_pennies d (.ref 64 :: [.int xa, .int xb]) P sz "java/lang/IllegalArgumentException") : kx_Mw l G sL_pennies hL_pennies (d + 1) 1 6 [.ref 64, .int xa, .int xb, .ref 143] P sz (cPx P sz 2) := by
  refine kx_mkw kx_tab kxLok_L [some (.ref 64), some (.int xa), some (.int xb), some (.ref 143), none] ⟨by decide +kernel, rfl, by omega⟩ rfl (fun r P' s' h => ⟨_, h.1⟩) rfl rfl (fun g hB hC hN hK => ?_)
  refine hB bL_pennies_0 _ _ _ _ _ _ _ kL_pennies_0 ?_
  dsimp only [bL_pennies_0, kx_wp, kx_step, kx_lI, kx_lL, kx_lA, kx_gl, kx_pI, kx_pL, kx_pR, kx_pA, kx_pV, kx_s1, kx_s2, kx_sl, kx_pre, kx_c2, kx_pl, kx_cmp, kx_oF, kx_eqN, kx_nil, kx_c1, kx_ft, kx_aI, kx_aL, kx_aR, kx_ln, Nat.reduceAdd, Option.toList, List.cons_append, List.nil_append]
  exact hK 52 _ _ _ _ _ 10 _ [.int 0, .ref 143] _ _ _ _ _ "java/lang/IllegalArgumentException" [(0, 10, 13, 27)] [] (0, 10, 17, 13) 2 2 lL_52 hM ⟨by decide, rfl⟩ h64 rfl rfl (Nat.le_of_ble_eq_true rfl) (by omega) (by decide) (by decide) (by decide) dL_pennies_5 rfl (by decide) (by decide) (by decide) (kx_at_l kxC_L 0 rfl) (fun q h => by
    simp only [List.mem_cons, List.not_mem_nil, or_false] at h
    rcases h with rfl
    · exact ⟨by decide, _, kx_at_l kxC_L 1 rfl, by decide⟩) (Or.inr ⟨4, dL_pennies_17, Nat.le_of_ble_eq_true rfl, rfl⟩) dL_pennies_19 dL_pennies_20 (fun s2 hs => ⟨rfl, rfl, hs⟩)

abbrev sL_refit : kx_S := (yL_refit, cL_refit, 5, some .int)
abbrev hL_refit : List (Nat × Nat × Nat × Nat) := [(0, 10, 13, 27), (0, 10, 17, 13)]
theorem kxW_L_refit : ∀ w ∈ [Cond.methodLink RL 174 yL_refit, Cond.static yL_refit, Cond.codeWith yL_refit cL_refit 5 (some .int) hL_refit], w ∈ kx_ws := kx_in_tbl [1225, 1226, 1227] (by decide +kernel) (by decide +kernel)
theorem lL_174 : kx_lS9 RL 174 sL_refit hL_refit 4 := ⟨kx_at_l kxW_L_refit 0 rfl, kx_at_l kxW_L_refit 1 rfl, kx_at_l kxW_L_refit 2 rfl, kx_at_l kxC_L 3 rfl, by decide +kernel, by decide +kernel, by decide +kernel⟩
def bL_refit_0 : List kx_O := [(.aload_n 3, 3, 0, 0, .null), (.iconst 0, 0, 0, 0, .int 0), (.aload_n 0, 0, 0, 0, .null), (.iload_n 1, 1, 0, 0, .null), (.iload_n 2, 2, 0, 0, .null)]
theorem kL_refit_0 : kx_oks kxL_L false cL_refit 0 bL_refit_0 = true := by decide +kernel
def bL_refit_8 : List kx_O := [(.i2l, 0, 0, 0, .null), (.lastore, 0, 0, 0, .null), (.goto 11, 21, 0, 0, .null)]
theorem kL_refit_8 : kx_oks kxL_L false cL_refit 8 bL_refit_8 = true := by decide +kernel
def bL_refit_13 : List kx_O := [(.astore 4, 4, 0, 0, .null), (.iconst 1, 0, 0, 0, .int 1), (.ireturn, 0, 0, 0, .null)]
theorem kL_refit_13 : kx_oks kxL_L false cL_refit 13 bL_refit_13 = true := by decide +kernel
def bL_refit_17 : List kx_O := [(.astore 4, 4, 0, 0, .null), (.iconst 2, 0, 0, 0, .int 2), (.ireturn, 0, 0, 0, .null)]
theorem kL_refit_17 : kx_oks kxL_L false cL_refit 17 bL_refit_17 = true := by decide +kernel
def bL_refit_21 : List kx_O := [(.iconst 0, 0, 0, 0, .int 0), (.ireturn, 0, 0, 0, .null)]
theorem kL_refit_21 : kx_oks kxL_L false cL_refit 21 bL_refit_21 = true := by decide +kernel
theorem dL_refit_5 : decode cL_refit 5 = .ok (.invokevirtual 55, 3) := by decide +kernel
set_option maxHeartbeats 4000000 in
theorem cw_refit_t (l : Launch) (G : kx_G) {P : kx_P} {sz : Nat} {f : Nat → Value} (h64 : P 64 = kO 10 f) {xa xb : Int32} {d mc ms : Nat} {Po : Option Value → kx_P → Nat → Prop} (hM : kx_Mn l G sX10_refit d mc ms (.ref 64 :: [.int xa, .int xb]) P sz Po) (hp : ∀ r P2 s2, Po r P2 s2 → ∃ (v : Value) (go : Nat → Int64), r = some v ∧ cvT sX11_refit v ∧ P2 143 = kL 1 go) : kx_Mw l G sL_refit hL_refit (d + 1) mc ms [.ref 64, .int xa, .int xb, .ref 143] P sz (cPt Po) := by
  refine kx_mkw kx_tab kxLok_L [some (.ref 64), some (.int xa), some (.int xb), some (.ref 143), none] ⟨by decide +kernel, rfl, by omega⟩ rfl (fun r P' s' h => by obtain ⟨v, P2, go, -, h, -⟩ := h; exact ⟨0, h⟩) rfl rfl (fun g hB hC hN hK => ?_)
  refine hB bL_refit_0 _ _ _ _ _ _ _ kL_refit_0 ?_
  dsimp only [bL_refit_0, kx_wp, kx_step, kx_lI, kx_lL, kx_lA, kx_gl, kx_pI, kx_pL, kx_pR, kx_pA, kx_pV, kx_s1, kx_s2, kx_sl, kx_pre, kx_c2, kx_pl, kx_cmp, kx_oF, kx_eqN, kx_nil, kx_c1, kx_ft, kx_aI, kx_aL, kx_aR, kx_ln, Nat.reduceAdd, Option.toList, List.cons_append, List.nil_append]
  refine hN.1 55 _ _ _ _ _ _ _ 10 _ _ _ _ _ _ _ _ _ _ lL_55 hM ⟨by decide, rfl⟩ h64 rfl rfl (Nat.le_of_ble_eq_true rfl) (by omega) (by decide) (by omega) (by omega) dL_refit_5 ?_
  intro r P2 s2 hP2
  obtain ⟨v, go, e1, e2, e3⟩ := hp r P2 s2 hP2
  subst e1
  obtain ⟨x, e4⟩ := e2.2 (by decide)
  subst e4
  dsimp only [Option.toList, List.cons_append, List.nil_append]
  refine hB bL_refit_8 _ _ _ _ _ _ _ kL_refit_8 ?_
  dsimp only [bL_refit_8, kx_wp, kx_step, kx_lI, kx_lL, kx_lA, kx_gl, kx_pI, kx_pL, kx_pR, kx_pA, kx_pV, kx_s1, kx_s2, kx_sl, kx_pre, kx_c2, kx_pl, kx_cmp, kx_oF, kx_eqN, kx_nil, kx_c1, kx_ft, kx_aI, kx_aL, kx_aR, kx_ln, Nat.reduceAdd, Option.toList, List.cons_append, List.nil_append]
  simp only [e3]
  try dsimp only [kx_wp, kx_step, kx_lI, kx_lL, kx_lA, kx_gl, kx_pI, kx_pL, kx_pR, kx_pA, kx_pV, kx_s1, kx_s2, kx_sl, kx_pre, kx_c2, kx_pl, kx_cmp, kx_oF, kx_eqN, kx_nil, kx_c1, kx_ft, kx_aI, kx_aL, kx_aR, kx_ln, Nat.reduceAdd, Option.toList, List.cons_append, List.nil_append]
  refine ⟨by decide, by unfold vp_in; decide, ?_⟩
  refine hB bL_refit_21 _ _ _ _ _ _ _ kL_refit_21 ?_
  dsimp only [bL_refit_21, kx_wp, kx_step, kx_lI, kx_lL, kx_lA, kx_gl, kx_pI, kx_pL, kx_pR, kx_pA, kx_pV, kx_s1, kx_s2, kx_sl, kx_pre, kx_c2, kx_pl, kx_cmp, kx_oF, kx_eqN, kx_nil, kx_c1, kx_ft, kx_aI, kx_aL, kx_aR, kx_ln, Nat.reduceAdd, Option.toList, List.cons_append, List.nil_append]
  exact ⟨_, P2, go, hP2, rfl, e3, rfl⟩

theorem dL_refit_13 : decode cL_refit 13 = .ok (.astore 4, 2) := by decide +kernel
theorem dL_refit_15 : decode cL_refit 15 = .ok (.iconst 1, 1) := by decide +kernel
theorem dL_refit_16 : decode cL_refit 16 = .ok (.ireturn, 1) := by decide +kernel
set_option maxHeartbeats 4000000 in
theorem cw_refit_x0 (l : Launch) (G : kx_G) {P : kx_P} {sz : Nat} {f : Nat → Value} (h64 : P 64 = kO 10 f) {xa xb : Int32} {d : Nat} (hM : kx_X l G sX10_refit d (.ref 64 :: [.int xa, .int xb]) P sz "java/util/NoSuchElementException") : kx_Mw l G sL_refit hL_refit (d + 1) 1 6 [.ref 64, .int xa, .int xb, .ref 143] P sz (cPx P sz 1) := by
  refine kx_mkw kx_tab kxLok_L [some (.ref 64), some (.int xa), some (.int xb), some (.ref 143), none] ⟨by decide +kernel, rfl, by omega⟩ rfl (fun r P' s' h => ⟨_, h.1⟩) rfl rfl (fun g hB hC hN hK => ?_)
  refine hB bL_refit_0 _ _ _ _ _ _ _ kL_refit_0 ?_
  dsimp only [bL_refit_0, kx_wp, kx_step, kx_lI, kx_lL, kx_lA, kx_gl, kx_pI, kx_pL, kx_pR, kx_pA, kx_pV, kx_s1, kx_s2, kx_sl, kx_pre, kx_c2, kx_pl, kx_cmp, kx_oF, kx_eqN, kx_nil, kx_c1, kx_ft, kx_aI, kx_aL, kx_aR, kx_ln, Nat.reduceAdd, Option.toList, List.cons_append, List.nil_append]
  exact hK 55 _ _ _ _ _ 10 _ [.int 0, .ref 143] _ _ _ _ _ "java/util/NoSuchElementException" [] [(0, 10, 17, 13)] (0, 10, 13, 27) 2 1 lL_55 hM ⟨by decide, rfl⟩ h64 rfl rfl (Nat.le_of_ble_eq_true rfl) (by omega) (by decide) (by decide) (by decide) dL_refit_5 rfl (by decide) (by decide) (by decide) (kx_at_l kxC_L 1 rfl) (fun q h => by cases h) (Or.inr ⟨4, dL_refit_13, Nat.le_of_ble_eq_true rfl, rfl⟩) dL_refit_15 dL_refit_16 (fun s2 hs => ⟨rfl, rfl, hs⟩)

theorem dL_refit_17 : decode cL_refit 17 = .ok (.astore 4, 2) := by decide +kernel
theorem dL_refit_19 : decode cL_refit 19 = .ok (.iconst 2, 1) := by decide +kernel
theorem dL_refit_20 : decode cL_refit 20 = .ok (.ireturn, 1) := by decide +kernel
set_option maxHeartbeats 4000000 in
theorem cw_refit_x1 (l : Launch) (G : kx_G) {P : kx_P} {sz : Nat} {f : Nat → Value} (h64 : P 64 = kO 10 f) {xa xb : Int32} {d : Nat} (hM : kx_X l G sX10_refit d (.ref 64 :: [.int xa, .int xb]) P sz "java/lang/IllegalArgumentException") : kx_Mw l G sL_refit hL_refit (d + 1) 1 6 [.ref 64, .int xa, .int xb, .ref 143] P sz (cPx P sz 2) := by
  refine kx_mkw kx_tab kxLok_L [some (.ref 64), some (.int xa), some (.int xb), some (.ref 143), none] ⟨by decide +kernel, rfl, by omega⟩ rfl (fun r P' s' h => ⟨_, h.1⟩) rfl rfl (fun g hB hC hN hK => ?_)
  refine hB bL_refit_0 _ _ _ _ _ _ _ kL_refit_0 ?_
  dsimp only [bL_refit_0, kx_wp, kx_step, kx_lI, kx_lL, kx_lA, kx_gl, kx_pI, kx_pL, kx_pR, kx_pA, kx_pV, kx_s1, kx_s2, kx_sl, kx_pre, kx_c2, kx_pl, kx_cmp, kx_oF, kx_eqN, kx_nil, kx_c1, kx_ft, kx_aI, kx_aL, kx_aR, kx_ln, Nat.reduceAdd, Option.toList, List.cons_append, List.nil_append]
  exact hK 55 _ _ _ _ _ 10 _ [.int 0, .ref 143] _ _ _ _ _ "java/lang/IllegalArgumentException" [(0, 10, 13, 27)] [] (0, 10, 17, 13) 2 2 lL_55 hM ⟨by decide, rfl⟩ h64 rfl rfl (Nat.le_of_ble_eq_true rfl) (by omega) (by decide) (by decide) (by decide) dL_refit_5 rfl (by decide) (by decide) (by decide) (kx_at_l kxC_L 0 rfl) (fun q h => by
    simp only [List.mem_cons, List.not_mem_nil, or_false] at h
    rcases h with rfl
    · exact ⟨by decide, _, kx_at_l kxC_L 1 rfl, by decide⟩) (Or.inr ⟨4, dL_refit_17, Nat.le_of_ble_eq_true rfl, rfl⟩) dL_refit_19 dL_refit_20 (fun s2 hs => ⟨rfl, rfl, hs⟩)

abbrev sL_trip : kx_S := (yL_trip, cL_trip, 5, some .int)
abbrev hL_trip : List (Nat × Nat × Nat × Nat) := [(0, 10, 13, 27)]
theorem kxW_L_trip : ∀ w ∈ [Cond.methodLink RL 177 yL_trip, Cond.static yL_trip, Cond.codeWith yL_trip cL_trip 5 (some .int) hL_trip], w ∈ kx_ws := kx_in_tbl [1236, 1237, 1238] (by decide +kernel) (by decide +kernel)
theorem lL_177 : kx_lS9 RL 177 sL_trip hL_trip 4 := ⟨kx_at_l kxW_L_trip 0 rfl, kx_at_l kxW_L_trip 1 rfl, kx_at_l kxW_L_trip 2 rfl, kx_at_l kxC_L 3 rfl, by decide +kernel, by decide +kernel, by decide +kernel⟩
def bL_trip_0 : List kx_O := [(.aload_n 3, 3, 0, 0, .null), (.iconst 0, 0, 0, 0, .int 0), (.aload_n 0, 0, 0, 0, .null), (.iload_n 1, 1, 0, 0, .null), (.iload_n 2, 2, 0, 0, .null)]
theorem kL_trip_0 : kx_oks kxL_L false cL_trip 0 bL_trip_0 = true := by decide +kernel
def bL_trip_8 : List kx_O := [(.i2l, 0, 0, 0, .null), (.lastore, 0, 0, 0, .null), (.goto 7, 17, 0, 0, .null)]
theorem kL_trip_8 : kx_oks kxL_L false cL_trip 8 bL_trip_8 = true := by decide +kernel
def bL_trip_13 : List kx_O := [(.astore 4, 4, 0, 0, .null), (.iconst 1, 0, 0, 0, .int 1), (.ireturn, 0, 0, 0, .null)]
theorem kL_trip_13 : kx_oks kxL_L false cL_trip 13 bL_trip_13 = true := by decide +kernel
def bL_trip_17 : List kx_O := [(.iconst 0, 0, 0, 0, .int 0), (.ireturn, 0, 0, 0, .null)]
theorem kL_trip_17 : kx_oks kxL_L false cL_trip 17 bL_trip_17 = true := by decide +kernel
theorem dL_trip_5 : decode cL_trip 5 = .ok (.invokevirtual 58, 3) := by decide +kernel
set_option maxHeartbeats 4000000 in
theorem cw_trip_t (l : Launch) (G : kx_G) {P : kx_P} {sz : Nat} {f : Nat → Value} (h64 : P 64 = kO 10 f) {xa xb : Int32} {d mc ms : Nat} {Po : Option Value → kx_P → Nat → Prop} (hM : kx_Mn l G sX10_trip d mc ms (.ref 64 :: [.int xa, .int xb]) P sz Po) (hp : ∀ r P2 s2, Po r P2 s2 → ∃ (v : Value) (go : Nat → Int64), r = some v ∧ cvT sX11_trip v ∧ P2 143 = kL 1 go) : kx_Mw l G sL_trip hL_trip (d + 1) mc ms [.ref 64, .int xa, .int xb, .ref 143] P sz (cPt Po) := by
  refine kx_mkw kx_tab kxLok_L [some (.ref 64), some (.int xa), some (.int xb), some (.ref 143), none] ⟨by decide +kernel, rfl, by omega⟩ rfl (fun r P' s' h => by obtain ⟨v, P2, go, -, h, -⟩ := h; exact ⟨0, h⟩) rfl rfl (fun g hB hC hN hK => ?_)
  refine hB bL_trip_0 _ _ _ _ _ _ _ kL_trip_0 ?_
  dsimp only [bL_trip_0, kx_wp, kx_step, kx_lI, kx_lL, kx_lA, kx_gl, kx_pI, kx_pL, kx_pR, kx_pA, kx_pV, kx_s1, kx_s2, kx_sl, kx_pre, kx_c2, kx_pl, kx_cmp, kx_oF, kx_eqN, kx_nil, kx_c1, kx_ft, kx_aI, kx_aL, kx_aR, kx_ln, Nat.reduceAdd, Option.toList, List.cons_append, List.nil_append]
  refine hN.1 58 _ _ _ _ _ _ _ 10 _ _ _ _ _ _ _ _ _ _ lL_58 hM ⟨by decide, rfl⟩ h64 rfl rfl (Nat.le_of_ble_eq_true rfl) (by omega) (by decide) (by omega) (by omega) dL_trip_5 ?_
  intro r P2 s2 hP2
  obtain ⟨v, go, e1, e2, e3⟩ := hp r P2 s2 hP2
  subst e1
  obtain ⟨x, e4⟩ := e2.2 (by decide)
  subst e4
  dsimp only [Option.toList, List.cons_append, List.nil_append]
  refine hB bL_trip_8 _ _ _ _ _ _ _ kL_trip_8 ?_
  dsimp only [bL_trip_8, kx_wp, kx_step, kx_lI, kx_lL, kx_lA, kx_gl, kx_pI, kx_pL, kx_pR, kx_pA, kx_pV, kx_s1, kx_s2, kx_sl, kx_pre, kx_c2, kx_pl, kx_cmp, kx_oF, kx_eqN, kx_nil, kx_c1, kx_ft, kx_aI, kx_aL, kx_aR, kx_ln, Nat.reduceAdd, Option.toList, List.cons_append, List.nil_append]
  simp only [e3]
  try dsimp only [kx_wp, kx_step, kx_lI, kx_lL, kx_lA, kx_gl, kx_pI, kx_pL, kx_pR, kx_pA, kx_pV, kx_s1, kx_s2, kx_sl, kx_pre, kx_c2, kx_pl, kx_cmp, kx_oF, kx_eqN, kx_nil, kx_c1, kx_ft, kx_aI, kx_aL, kx_aR, kx_ln, Nat.reduceAdd, Option.toList, List.cons_append, List.nil_append]
  refine ⟨by decide, by unfold vp_in; decide, ?_⟩
  refine hB bL_trip_17 _ _ _ _ _ _ _ kL_trip_17 ?_
  dsimp only [bL_trip_17, kx_wp, kx_step, kx_lI, kx_lL, kx_lA, kx_gl, kx_pI, kx_pL, kx_pR, kx_pA, kx_pV, kx_s1, kx_s2, kx_sl, kx_pre, kx_c2, kx_pl, kx_cmp, kx_oF, kx_eqN, kx_nil, kx_c1, kx_ft, kx_aI, kx_aL, kx_aR, kx_ln, Nat.reduceAdd, Option.toList, List.cons_append, List.nil_append]
  exact ⟨_, P2, go, hP2, rfl, e3, rfl⟩

theorem dL_trip_13 : decode cL_trip 13 = .ok (.astore 4, 2) := by decide +kernel
theorem dL_trip_15 : decode cL_trip 15 = .ok (.iconst 1, 1) := by decide +kernel
theorem dL_trip_16 : decode cL_trip 16 = .ok (.ireturn, 1) := by decide +kernel
set_option maxHeartbeats 4000000 in
theorem cw_trip_x0 (l : Launch) (G : kx_G) {P : kx_P} {sz : Nat} {f : Nat → Value} (h64 : P 64 = kO 10 f) {xa xb : Int32} {d : Nat} (hM : kx_X l G sX10_trip d (.ref 64 :: [.int xa, .int xb]) P sz "java/util/NoSuchElementException") : kx_Mw l G sL_trip hL_trip (d + 1) 1 6 [.ref 64, .int xa, .int xb, .ref 143] P sz (cPx P sz 1) := by
  refine kx_mkw kx_tab kxLok_L [some (.ref 64), some (.int xa), some (.int xb), some (.ref 143), none] ⟨by decide +kernel, rfl, by omega⟩ rfl (fun r P' s' h => ⟨_, h.1⟩) rfl rfl (fun g hB hC hN hK => ?_)
  refine hB bL_trip_0 _ _ _ _ _ _ _ kL_trip_0 ?_
  dsimp only [bL_trip_0, kx_wp, kx_step, kx_lI, kx_lL, kx_lA, kx_gl, kx_pI, kx_pL, kx_pR, kx_pA, kx_pV, kx_s1, kx_s2, kx_sl, kx_pre, kx_c2, kx_pl, kx_cmp, kx_oF, kx_eqN, kx_nil, kx_c1, kx_ft, kx_aI, kx_aL, kx_aR, kx_ln, Nat.reduceAdd, Option.toList, List.cons_append, List.nil_append]
  exact hK 58 _ _ _ _ _ 10 _ [.int 0, .ref 143] _ _ _ _ _ "java/util/NoSuchElementException" [] [] (0, 10, 13, 27) 2 1 lL_58 hM ⟨by decide, rfl⟩ h64 rfl rfl (Nat.le_of_ble_eq_true rfl) (by omega) (by decide) (by decide) (by decide) dL_trip_5 rfl (by decide) (by decide) (by decide) (kx_at_l kxC_L 1 rfl) (fun q h => by cases h) (Or.inr ⟨4, dL_trip_13, Nat.le_of_ble_eq_true rfl, rfl⟩) dL_trip_15 dL_trip_16 (fun s2 hs => ⟨rfl, rfl, hs⟩)

abbrev sL_mend : kx_S := (yL_mend, cL_mend, 5, some .int)
abbrev hL_mend : List (Nat × Nat × Nat × Nat) := [(0, 10, 13, 27), (0, 10, 17, 13)]
theorem kxW_L_mend : ∀ w ∈ [Cond.methodLink RL 181 yL_mend, Cond.static yL_mend, Cond.codeWith yL_mend cL_mend 5 (some .int) hL_mend], w ∈ kx_ws := kx_in_tbl [1245, 1246, 1247] (by decide +kernel) (by decide +kernel)
theorem lL_181 : kx_lS9 RL 181 sL_mend hL_mend 4 := ⟨kx_at_l kxW_L_mend 0 rfl, kx_at_l kxW_L_mend 1 rfl, kx_at_l kxW_L_mend 2 rfl, kx_at_l kxC_L 3 rfl, by decide +kernel, by decide +kernel, by decide +kernel⟩
def bL_mend_0 : List kx_O := [(.aload_n 3, 3, 0, 0, .null), (.iconst 0, 0, 0, 0, .int 0), (.aload_n 0, 0, 0, 0, .null), (.iload_n 1, 1, 0, 0, .null), (.iload_n 2, 2, 0, 0, .null)]
theorem kL_mend_0 : kx_oks kxL_L false cL_mend 0 bL_mend_0 = true := by decide +kernel
def bL_mend_8 : List kx_O := [(.i2l, 0, 0, 0, .null), (.lastore, 0, 0, 0, .null), (.goto 11, 21, 0, 0, .null)]
theorem kL_mend_8 : kx_oks kxL_L false cL_mend 8 bL_mend_8 = true := by decide +kernel
def bL_mend_13 : List kx_O := [(.astore 4, 4, 0, 0, .null), (.iconst 1, 0, 0, 0, .int 1), (.ireturn, 0, 0, 0, .null)]
theorem kL_mend_13 : kx_oks kxL_L false cL_mend 13 bL_mend_13 = true := by decide +kernel
def bL_mend_17 : List kx_O := [(.astore 4, 4, 0, 0, .null), (.iconst 2, 0, 0, 0, .int 2), (.ireturn, 0, 0, 0, .null)]
theorem kL_mend_17 : kx_oks kxL_L false cL_mend 17 bL_mend_17 = true := by decide +kernel
def bL_mend_21 : List kx_O := [(.iconst 0, 0, 0, 0, .int 0), (.ireturn, 0, 0, 0, .null)]
theorem kL_mend_21 : kx_oks kxL_L false cL_mend 21 bL_mend_21 = true := by decide +kernel
theorem dL_mend_5 : decode cL_mend 5 = .ok (.invokevirtual 62, 3) := by decide +kernel
set_option maxHeartbeats 4000000 in
theorem cw_mend_t (l : Launch) (G : kx_G) {P : kx_P} {sz : Nat} {f : Nat → Value} (h64 : P 64 = kO 10 f) {xa xb : Int32} {d mc ms : Nat} {Po : Option Value → kx_P → Nat → Prop} (hM : kx_Mn l G sX10_mend d mc ms (.ref 64 :: [.int xa, .int xb]) P sz Po) (hp : ∀ r P2 s2, Po r P2 s2 → ∃ (v : Value) (go : Nat → Int64), r = some v ∧ cvT sX11_mend v ∧ P2 143 = kL 1 go) : kx_Mw l G sL_mend hL_mend (d + 1) mc ms [.ref 64, .int xa, .int xb, .ref 143] P sz (cPt Po) := by
  refine kx_mkw kx_tab kxLok_L [some (.ref 64), some (.int xa), some (.int xb), some (.ref 143), none] ⟨by decide +kernel, rfl, by omega⟩ rfl (fun r P' s' h => by obtain ⟨v, P2, go, -, h, -⟩ := h; exact ⟨0, h⟩) rfl rfl (fun g hB hC hN hK => ?_)
  refine hB bL_mend_0 _ _ _ _ _ _ _ kL_mend_0 ?_
  dsimp only [bL_mend_0, kx_wp, kx_step, kx_lI, kx_lL, kx_lA, kx_gl, kx_pI, kx_pL, kx_pR, kx_pA, kx_pV, kx_s1, kx_s2, kx_sl, kx_pre, kx_c2, kx_pl, kx_cmp, kx_oF, kx_eqN, kx_nil, kx_c1, kx_ft, kx_aI, kx_aL, kx_aR, kx_ln, Nat.reduceAdd, Option.toList, List.cons_append, List.nil_append]
  refine hN.1 62 _ _ _ _ _ _ _ 10 _ _ _ _ _ _ _ _ _ _ lL_62 hM ⟨by decide, rfl⟩ h64 rfl rfl (Nat.le_of_ble_eq_true rfl) (by omega) (by decide) (by omega) (by omega) dL_mend_5 ?_
  intro r P2 s2 hP2
  obtain ⟨v, go, e1, e2, e3⟩ := hp r P2 s2 hP2
  subst e1
  obtain ⟨x, e4⟩ := e2.2 (by decide)
  subst e4
  dsimp only [Option.toList, List.cons_append, List.nil_append]
  refine hB bL_mend_8 _ _ _ _ _ _ _ kL_mend_8 ?_
  dsimp only [bL_mend_8, kx_wp, kx_step, kx_lI, kx_lL, kx_lA, kx_gl, kx_pI, kx_pL, kx_pR, kx_pA, kx_pV, kx_s1, kx_s2, kx_sl, kx_pre, kx_c2, kx_pl, kx_cmp, kx_oF, kx_eqN, kx_nil, kx_c1, kx_ft, kx_aI, kx_aL, kx_aR, kx_ln, Nat.reduceAdd, Option.toList, List.cons_append, List.nil_append]
  simp only [e3]
  try dsimp only [kx_wp, kx_step, kx_lI, kx_lL, kx_lA, kx_gl, kx_pI, kx_pL, kx_pR, kx_pA, kx_pV, kx_s1, kx_s2, kx_sl, kx_pre, kx_c2, kx_pl, kx_cmp, kx_oF, kx_eqN, kx_nil, kx_c1, kx_ft, kx_aI, kx_aL, kx_aR, kx_ln, Nat.reduceAdd, Option.toList, List.cons_append, List.nil_append]
  refine ⟨by decide, by unfold vp_in; decide, ?_⟩
  refine hB bL_mend_21 _ _ _ _ _ _ _ kL_mend_21 ?_
  dsimp only [bL_mend_21, kx_wp, kx_step, kx_lI, kx_lL, kx_lA, kx_gl, kx_pI, kx_pL, kx_pR, kx_pA, kx_pV, kx_s1, kx_s2, kx_sl, kx_pre, kx_c2, kx_pl, kx_cmp, kx_oF, kx_eqN, kx_nil, kx_c1, kx_ft, kx_aI, kx_aL, kx_aR, kx_ln, Nat.reduceAdd, Option.toList, List.cons_append, List.nil_append]
  exact ⟨_, P2, go, hP2, rfl, e3, rfl⟩

theorem dL_mend_13 : decode cL_mend 13 = .ok (.astore 4, 2) := by decide +kernel
theorem dL_mend_15 : decode cL_mend 15 = .ok (.iconst 1, 1) := by decide +kernel
theorem dL_mend_16 : decode cL_mend 16 = .ok (.ireturn, 1) := by decide +kernel
set_option maxHeartbeats 4000000 in
theorem cw_mend_x0 (l : Launch) (G : kx_G) {P : kx_P} {sz : Nat} {f : Nat → Value} (h64 : P 64 = kO 10 f) {xa xb : Int32} {d : Nat} (hM : kx_X l G sX10_mend d (.ref 64 :: [.int xa, .int xb]) P sz "java/util/NoSuchElementException") : kx_Mw l G sL_mend hL_mend (d + 1) 1 6 [.ref 64, .int xa, .int xb, .ref 143] P sz (cPx P sz 1) := by
  refine kx_mkw kx_tab kxLok_L [some (.ref 64), some (.int xa), some (.int xb), some (.ref 143), none] ⟨by decide +kernel, rfl, by omega⟩ rfl (fun r P' s' h => ⟨_, h.1⟩) rfl rfl (fun g hB hC hN hK => ?_)
  refine hB bL_mend_0 _ _ _ _ _ _ _ kL_mend_0 ?_
  dsimp only [bL_mend_0, kx_wp, kx_step, kx_lI, kx_lL, kx_lA, kx_gl, kx_pI, kx_pL, kx_pR, kx_pA, kx_pV, kx_s1, kx_s2, kx_sl, kx_pre, kx_c2, kx_pl, kx_cmp, kx_oF, kx_eqN, kx_nil, kx_c1, kx_ft, kx_aI, kx_aL, kx_aR, kx_ln, Nat.reduceAdd, Option.toList, List.cons_append, List.nil_append]
  exact hK 62 _ _ _ _ _ 10 _ [.int 0, .ref 143] _ _ _ _ _ "java/util/NoSuchElementException" [] [(0, 10, 17, 13)] (0, 10, 13, 27) 2 1 lL_62 hM ⟨by decide, rfl⟩ h64 rfl rfl (Nat.le_of_ble_eq_true rfl) (by omega) (by decide) (by decide) (by decide) dL_mend_5 rfl (by decide) (by decide) (by decide) (kx_at_l kxC_L 1 rfl) (fun q h => by cases h) (Or.inr ⟨4, dL_mend_13, Nat.le_of_ble_eq_true rfl, rfl⟩) dL_mend_15 dL_mend_16 (fun s2 hs => ⟨rfl, rfl, hs⟩)

theorem dL_mend_17 : decode cL_mend 17 = .ok (.astore 4, 2) := by decide +kernel
theorem dL_mend_19 : decode cL_mend 19 = .ok (.iconst 2, 1) := by decide +kernel
theorem dL_mend_20 : decode cL_mend 20 = .ok (.ireturn, 1) := by decide +kernel
set_option maxHeartbeats 4000000 in
theorem cw_mend_x1 (l : Launch) (G : kx_G) {P : kx_P} {sz : Nat} {f : Nat → Value} (h64 : P 64 = kO 10 f) {xa xb : Int32} {d : Nat} (hM : kx_X l G sX10_mend d (.ref 64 :: [.int xa, .int xb]) P sz "java/lang/IllegalArgumentException") : kx_Mw l G sL_mend hL_mend (d + 1) 1 6 [.ref 64, .int xa, .int xb, .ref 143] P sz (cPx P sz 2) := by
  refine kx_mkw kx_tab kxLok_L [some (.ref 64), some (.int xa), some (.int xb), some (.ref 143), none] ⟨by decide +kernel, rfl, by omega⟩ rfl (fun r P' s' h => ⟨_, h.1⟩) rfl rfl (fun g hB hC hN hK => ?_)
  refine hB bL_mend_0 _ _ _ _ _ _ _ kL_mend_0 ?_
  dsimp only [bL_mend_0, kx_wp, kx_step, kx_lI, kx_lL, kx_lA, kx_gl, kx_pI, kx_pL, kx_pR, kx_pA, kx_pV, kx_s1, kx_s2, kx_sl, kx_pre, kx_c2, kx_pl, kx_cmp, kx_oF, kx_eqN, kx_nil, kx_c1, kx_ft, kx_aI, kx_aL, kx_aR, kx_ln, Nat.reduceAdd, Option.toList, List.cons_append, List.nil_append]
  exact hK 62 _ _ _ _ _ 10 _ [.int 0, .ref 143] _ _ _ _ _ "java/lang/IllegalArgumentException" [(0, 10, 13, 27)] [] (0, 10, 17, 13) 2 2 lL_62 hM ⟨by decide, rfl⟩ h64 rfl rfl (Nat.le_of_ble_eq_true rfl) (by omega) (by decide) (by decide) (by decide) dL_mend_5 rfl (by decide) (by decide) (by decide) (kx_at_l kxC_L 0 rfl) (fun q h => by
    simp only [List.mem_cons, List.not_mem_nil, or_false] at h
    rcases h with rfl
    · exact ⟨by decide, _, kx_at_l kxC_L 1 rfl, by decide⟩) (Or.inr ⟨4, dL_mend_17, Nat.le_of_ble_eq_true rfl, rfl⟩) dL_mend_19 dL_mend_20 (fun s2 hs => ⟨rfl, rfl, hs⟩)

abbrev sL_sounding : kx_S := (yL_sounding, cL_sounding, 5, some .int)
abbrev hL_sounding : List (Nat × Nat × Nat × Nat) := [(0, 10, 13, 13)]
theorem kxW_L_sounding : ∀ w ∈ [Cond.methodLink RL 184 yL_sounding, Cond.static yL_sounding, Cond.codeWith yL_sounding cL_sounding 5 (some .int) hL_sounding], w ∈ kx_ws := kx_in_tbl [1261, 1262, 1263] (by decide +kernel) (by decide +kernel)
theorem lL_184 : kx_lS9 RL 184 sL_sounding hL_sounding 4 := ⟨kx_at_l kxW_L_sounding 0 rfl, kx_at_l kxW_L_sounding 1 rfl, kx_at_l kxW_L_sounding 2 rfl, kx_at_l kxC_L 3 rfl, by decide +kernel, by decide +kernel, by decide +kernel⟩
def bL_sounding_0 : List kx_O := [(.aload_n 3, 3, 0, 0, .null), (.iconst 0, 0, 0, 0, .int 0), (.aload_n 0, 0, 0, 0, .null), (.iload_n 1, 1, 0, 0, .null), (.iload_n 2, 2, 0, 0, .null)]
theorem kL_sounding_0 : kx_oks kxL_L false cL_sounding 0 bL_sounding_0 = true := by decide +kernel
def bL_sounding_8 : List kx_O := [(.i2l, 0, 0, 0, .null), (.lastore, 0, 0, 0, .null), (.goto 7, 17, 0, 0, .null)]
theorem kL_sounding_8 : kx_oks kxL_L false cL_sounding 8 bL_sounding_8 = true := by decide +kernel
def bL_sounding_13 : List kx_O := [(.astore 4, 4, 0, 0, .null), (.iconst 1, 0, 0, 0, .int 1), (.ireturn, 0, 0, 0, .null)]
theorem kL_sounding_13 : kx_oks kxL_L false cL_sounding 13 bL_sounding_13 = true := by decide +kernel
def bL_sounding_17 : List kx_O := [(.iconst 0, 0, 0, 0, .int 0), (.ireturn, 0, 0, 0, .null)]
theorem kL_sounding_17 : kx_oks kxL_L false cL_sounding 17 bL_sounding_17 = true := by decide +kernel
theorem dL_sounding_5 : decode cL_sounding 5 = .ok (.invokevirtual 65, 3) := by decide +kernel
set_option maxHeartbeats 4000000 in
theorem cw_sounding_t (l : Launch) (G : kx_G) {P : kx_P} {sz : Nat} {f : Nat → Value} (h64 : P 64 = kO 10 f) {xa xb : Int32} {d mc ms : Nat} {Po : Option Value → kx_P → Nat → Prop} (hM : kx_Mn l G sX10_sounding d mc ms (.ref 64 :: [.int xa, .int xb]) P sz Po) (hp : ∀ r P2 s2, Po r P2 s2 → ∃ (v : Value) (go : Nat → Int64), r = some v ∧ cvT sX11_sounding v ∧ P2 143 = kL 1 go) : kx_Mw l G sL_sounding hL_sounding (d + 1) mc ms [.ref 64, .int xa, .int xb, .ref 143] P sz (cPt Po) := by
  refine kx_mkw kx_tab kxLok_L [some (.ref 64), some (.int xa), some (.int xb), some (.ref 143), none] ⟨by decide +kernel, rfl, by omega⟩ rfl (fun r P' s' h => by obtain ⟨v, P2, go, -, h, -⟩ := h; exact ⟨0, h⟩) rfl rfl (fun g hB hC hN hK => ?_)
  refine hB bL_sounding_0 _ _ _ _ _ _ _ kL_sounding_0 ?_
  dsimp only [bL_sounding_0, kx_wp, kx_step, kx_lI, kx_lL, kx_lA, kx_gl, kx_pI, kx_pL, kx_pR, kx_pA, kx_pV, kx_s1, kx_s2, kx_sl, kx_pre, kx_c2, kx_pl, kx_cmp, kx_oF, kx_eqN, kx_nil, kx_c1, kx_ft, kx_aI, kx_aL, kx_aR, kx_ln, Nat.reduceAdd, Option.toList, List.cons_append, List.nil_append]
  refine hN.1 65 _ _ _ _ _ _ _ 10 _ _ _ _ _ _ _ _ _ _ lL_65 hM ⟨by decide, rfl⟩ h64 rfl rfl (Nat.le_of_ble_eq_true rfl) (by omega) (by decide) (by omega) (by omega) dL_sounding_5 ?_
  intro r P2 s2 hP2
  obtain ⟨v, go, e1, e2, e3⟩ := hp r P2 s2 hP2
  subst e1
  obtain ⟨x, e4⟩ := e2.2 (by decide)
  subst e4
  dsimp only [Option.toList, List.cons_append, List.nil_append]
  refine hB bL_sounding_8 _ _ _ _ _ _ _ kL_sounding_8 ?_
  dsimp only [bL_sounding_8, kx_wp, kx_step, kx_lI, kx_lL, kx_lA, kx_gl, kx_pI, kx_pL, kx_pR, kx_pA, kx_pV, kx_s1, kx_s2, kx_sl, kx_pre, kx_c2, kx_pl, kx_cmp, kx_oF, kx_eqN, kx_nil, kx_c1, kx_ft, kx_aI, kx_aL, kx_aR, kx_ln, Nat.reduceAdd, Option.toList, List.cons_append, List.nil_append]
  simp only [e3]
  try dsimp only [kx_wp, kx_step, kx_lI, kx_lL, kx_lA, kx_gl, kx_pI, kx_pL, kx_pR, kx_pA, kx_pV, kx_s1, kx_s2, kx_sl, kx_pre, kx_c2, kx_pl, kx_cmp, kx_oF, kx_eqN, kx_nil, kx_c1, kx_ft, kx_aI, kx_aL, kx_aR, kx_ln, Nat.reduceAdd, Option.toList, List.cons_append, List.nil_append]
  refine ⟨by decide, by unfold vp_in; decide, ?_⟩
  refine hB bL_sounding_17 _ _ _ _ _ _ _ kL_sounding_17 ?_
  dsimp only [bL_sounding_17, kx_wp, kx_step, kx_lI, kx_lL, kx_lA, kx_gl, kx_pI, kx_pL, kx_pR, kx_pA, kx_pV, kx_s1, kx_s2, kx_sl, kx_pre, kx_c2, kx_pl, kx_cmp, kx_oF, kx_eqN, kx_nil, kx_c1, kx_ft, kx_aI, kx_aL, kx_aR, kx_ln, Nat.reduceAdd, Option.toList, List.cons_append, List.nil_append]
  exact ⟨_, P2, go, hP2, rfl, e3, rfl⟩

theorem dL_sounding_13 : decode cL_sounding 13 = .ok (.astore 4, 2) := by decide +kernel
theorem dL_sounding_15 : decode cL_sounding 15 = .ok (.iconst 1, 1) := by decide +kernel
theorem dL_sounding_16 : decode cL_sounding 16 = .ok (.ireturn, 1) := by decide +kernel
set_option maxHeartbeats 4000000 in
theorem cw_sounding_x0 (l : Launch) (G : kx_G) {P : kx_P} {sz : Nat} {f : Nat → Value} (h64 : P 64 = kO 10 f) {xa xb : Int32} {d : Nat} (hM : kx_X l G sX10_sounding d (.ref 64 :: [.int xa, .int xb]) P sz "java/lang/IllegalArgumentException") : kx_Mw l G sL_sounding hL_sounding (d + 1) 1 6 [.ref 64, .int xa, .int xb, .ref 143] P sz (cPx P sz 1) := by
  refine kx_mkw kx_tab kxLok_L [some (.ref 64), some (.int xa), some (.int xb), some (.ref 143), none] ⟨by decide +kernel, rfl, by omega⟩ rfl (fun r P' s' h => ⟨_, h.1⟩) rfl rfl (fun g hB hC hN hK => ?_)
  refine hB bL_sounding_0 _ _ _ _ _ _ _ kL_sounding_0 ?_
  dsimp only [bL_sounding_0, kx_wp, kx_step, kx_lI, kx_lL, kx_lA, kx_gl, kx_pI, kx_pL, kx_pR, kx_pA, kx_pV, kx_s1, kx_s2, kx_sl, kx_pre, kx_c2, kx_pl, kx_cmp, kx_oF, kx_eqN, kx_nil, kx_c1, kx_ft, kx_aI, kx_aL, kx_aR, kx_ln, Nat.reduceAdd, Option.toList, List.cons_append, List.nil_append]
  exact hK 65 _ _ _ _ _ 10 _ [.int 0, .ref 143] _ _ _ _ _ "java/lang/IllegalArgumentException" [] [] (0, 10, 13, 13) 2 1 lL_65 hM ⟨by decide, rfl⟩ h64 rfl rfl (Nat.le_of_ble_eq_true rfl) (by omega) (by decide) (by decide) (by decide) dL_sounding_5 rfl (by decide) (by decide) (by decide) (kx_at_l kxC_L 0 rfl) (fun q h => by cases h) (Or.inr ⟨4, dL_sounding_13, Nat.le_of_ble_eq_true rfl, rfl⟩) dL_sounding_15 dL_sounding_16 (fun s2 hs => ⟨rfl, rfl, hs⟩)

abbrev sL_heard : kx_S := (yL_heard, cL_heard, 7, some .int)
abbrev hL_heard : List (Nat × Nat × Nat × Nat) := [(0, 14, 17, 13)]
theorem kxW_L_heard : ∀ w ∈ [Cond.methodLink RL 187 yL_heard, Cond.static yL_heard, Cond.codeWith yL_heard cL_heard 7 (some .int) hL_heard], w ∈ kx_ws := kx_in_tbl [1282, 1283, 1284] (by decide +kernel) (by decide +kernel)
theorem lL_187 : kx_lS9 RL 187 sL_heard hL_heard 6 := ⟨kx_at_l kxW_L_heard 0 rfl, kx_at_l kxW_L_heard 1 rfl, kx_at_l kxW_L_heard 2 rfl, kx_at_l kxC_L 3 rfl, by decide +kernel, by decide +kernel, by decide +kernel⟩
def bL_heard_0 : List kx_O := [(.aload 5, 5, 0, 0, .null), (.iconst 0, 0, 0, 0, .int 0), (.aload_n 0, 0, 0, 0, .null), (.iload_n 1, 1, 0, 0, .null), (.iload_n 2, 2, 0, 0, .null), (.iload_n 3, 3, 0, 0, .null), (.iload 4, 4, 0, 0, .null)]
theorem kL_heard_0 : kx_oks kxL_L false cL_heard 0 bL_heard_0 = true := by decide +kernel
def bL_heard_12 : List kx_O := [(.i2l, 0, 0, 0, .null), (.lastore, 0, 0, 0, .null), (.goto 7, 21, 0, 0, .null)]
theorem kL_heard_12 : kx_oks kxL_L false cL_heard 12 bL_heard_12 = true := by decide +kernel
def bL_heard_17 : List kx_O := [(.astore 6, 6, 0, 0, .null), (.iconst 1, 0, 0, 0, .int 1), (.ireturn, 0, 0, 0, .null)]
theorem kL_heard_17 : kx_oks kxL_L false cL_heard 17 bL_heard_17 = true := by decide +kernel
def bL_heard_21 : List kx_O := [(.iconst 0, 0, 0, 0, .int 0), (.ireturn, 0, 0, 0, .null)]
theorem kL_heard_21 : kx_oks kxL_L false cL_heard 21 bL_heard_21 = true := by decide +kernel
theorem dL_heard_9 : decode cL_heard 9 = .ok (.invokevirtual 68, 3) := by decide +kernel
set_option maxHeartbeats 4000000 in
theorem cw_heard_t (l : Launch) (G : kx_G) {P : kx_P} {sz : Nat} {f : Nat → Value} (h64 : P 64 = kO 10 f) {xa xb xc xd : Int32} {d mc ms : Nat} {Po : Option Value → kx_P → Nat → Prop} (hM : kx_Mn l G sX10_heard d mc ms (.ref 64 :: [.int xa, .int xb, .int xc, .int xd]) P sz Po) (hp : ∀ r P2 s2, Po r P2 s2 → ∃ (v : Value) (go : Nat → Int64), r = some v ∧ cvT sX11_heard v ∧ P2 143 = kL 1 go) : kx_Mw l G sL_heard hL_heard (d + 1) mc ms [.ref 64, .int xa, .int xb, .int xc, .int xd, .ref 143] P sz (cPt Po) := by
  refine kx_mkw kx_tab kxLok_L [some (.ref 64), some (.int xa), some (.int xb), some (.int xc), some (.int xd), some (.ref 143), none] ⟨by decide +kernel, rfl, by omega⟩ rfl (fun r P' s' h => by obtain ⟨v, P2, go, -, h, -⟩ := h; exact ⟨0, h⟩) rfl rfl (fun g hB hC hN hK => ?_)
  refine hB bL_heard_0 _ _ _ _ _ _ _ kL_heard_0 ?_
  dsimp only [bL_heard_0, kx_wp, kx_step, kx_lI, kx_lL, kx_lA, kx_gl, kx_pI, kx_pL, kx_pR, kx_pA, kx_pV, kx_s1, kx_s2, kx_sl, kx_pre, kx_c2, kx_pl, kx_cmp, kx_oF, kx_eqN, kx_nil, kx_c1, kx_ft, kx_aI, kx_aL, kx_aR, kx_ln, Nat.reduceAdd, Option.toList, List.cons_append, List.nil_append]
  refine hN.1 68 _ _ _ _ _ _ _ 10 _ _ _ _ _ _ _ _ _ _ lL_68 hM ⟨by decide, rfl⟩ h64 rfl rfl (Nat.le_of_ble_eq_true rfl) (by omega) (by decide) (by omega) (by omega) dL_heard_9 ?_
  intro r P2 s2 hP2
  obtain ⟨v, go, e1, e2, e3⟩ := hp r P2 s2 hP2
  subst e1
  obtain ⟨x, e4⟩ := e2.2 (by decide)
  subst e4
  dsimp only [Option.toList, List.cons_append, List.nil_append]
  refine hB bL_heard_12 _ _ _ _ _ _ _ kL_heard_12 ?_
  dsimp only [bL_heard_12, kx_wp, kx_step, kx_lI, kx_lL, kx_lA, kx_gl, kx_pI, kx_pL, kx_pR, kx_pA, kx_pV, kx_s1, kx_s2, kx_sl, kx_pre, kx_c2, kx_pl, kx_cmp, kx_oF, kx_eqN, kx_nil, kx_c1, kx_ft, kx_aI, kx_aL, kx_aR, kx_ln, Nat.reduceAdd, Option.toList, List.cons_append, List.nil_append]
  simp only [e3]
  try dsimp only [kx_wp, kx_step, kx_lI, kx_lL, kx_lA, kx_gl, kx_pI, kx_pL, kx_pR, kx_pA, kx_pV, kx_s1, kx_s2, kx_sl, kx_pre, kx_c2, kx_pl, kx_cmp, kx_oF, kx_eqN, kx_nil, kx_c1, kx_ft, kx_aI, kx_aL, kx_aR, kx_ln, Nat.reduceAdd, Option.toList, List.cons_append, List.nil_append]
  refine ⟨by decide, by unfold vp_in; decide, ?_⟩
  refine hB bL_heard_21 _ _ _ _ _ _ _ kL_heard_21 ?_
  dsimp only [bL_heard_21, kx_wp, kx_step, kx_lI, kx_lL, kx_lA, kx_gl, kx_pI, kx_pL, kx_pR, kx_pA, kx_pV, kx_s1, kx_s2, kx_sl, kx_pre, kx_c2, kx_pl, kx_cmp, kx_oF, kx_eqN, kx_nil, kx_c1, kx_ft, kx_aI, kx_aL, kx_aR, kx_ln, Nat.reduceAdd, Option.toList, List.cons_append, List.nil_append]
  exact ⟨_, P2, go, hP2, rfl, e3, rfl⟩

theorem dL_heard_17 : decode cL_heard 17 = .ok (.astore 6, 2) := by decide +kernel
theorem dL_heard_19 : decode cL_heard 19 = .ok (.iconst 1, 1) := by decide +kernel
theorem dL_heard_20 : decode cL_heard 20 = .ok (.ireturn, 1) := by decide +kernel
set_option maxHeartbeats 4000000 in
theorem cw_heard_x0 (l : Launch) (G : kx_G) {P : kx_P} {sz : Nat} {f : Nat → Value} (h64 : P 64 = kO 10 f) {xa xb xc xd : Int32} {d : Nat} (hM : kx_X l G sX10_heard d (.ref 64 :: [.int xa, .int xb, .int xc, .int xd]) P sz "java/lang/IllegalArgumentException") : kx_Mw l G sL_heard hL_heard (d + 1) 1 6 [.ref 64, .int xa, .int xb, .int xc, .int xd, .ref 143] P sz (cPx P sz 1) := by
  refine kx_mkw kx_tab kxLok_L [some (.ref 64), some (.int xa), some (.int xb), some (.int xc), some (.int xd), some (.ref 143), none] ⟨by decide +kernel, rfl, by omega⟩ rfl (fun r P' s' h => ⟨_, h.1⟩) rfl rfl (fun g hB hC hN hK => ?_)
  refine hB bL_heard_0 _ _ _ _ _ _ _ kL_heard_0 ?_
  dsimp only [bL_heard_0, kx_wp, kx_step, kx_lI, kx_lL, kx_lA, kx_gl, kx_pI, kx_pL, kx_pR, kx_pA, kx_pV, kx_s1, kx_s2, kx_sl, kx_pre, kx_c2, kx_pl, kx_cmp, kx_oF, kx_eqN, kx_nil, kx_c1, kx_ft, kx_aI, kx_aL, kx_aR, kx_ln, Nat.reduceAdd, Option.toList, List.cons_append, List.nil_append]
  exact hK 68 _ _ _ _ _ 10 _ [.int 0, .ref 143] _ _ _ _ _ "java/lang/IllegalArgumentException" [] [] (0, 14, 17, 13) 2 1 lL_68 hM ⟨by decide, rfl⟩ h64 rfl rfl (Nat.le_of_ble_eq_true rfl) (by omega) (by decide) (by decide) (by decide) dL_heard_9 rfl (by decide) (by decide) (by decide) (kx_at_l kxC_L 0 rfl) (fun q h => by cases h) (Or.inr ⟨6, dL_heard_17, Nat.le_of_ble_eq_true rfl, rfl⟩) dL_heard_19 dL_heard_20 (fun s2 hs => ⟨rfl, rfl, hs⟩)

abbrev sL_witness : kx_S := (yL_witness, cL_witness, 7, some .int)
abbrev hL_witness : List (Nat × Nat × Nat × Nat) := [(0, 14, 17, 13)]
theorem kxW_L_witness : ∀ w ∈ [Cond.methodLink RL 191 yL_witness, Cond.static yL_witness, Cond.codeWith yL_witness cL_witness 7 (some .int) hL_witness], w ∈ kx_ws := kx_in_tbl [1316, 1317, 1318] (by decide +kernel) (by decide +kernel)
theorem lL_191 : kx_lS9 RL 191 sL_witness hL_witness 6 := ⟨kx_at_l kxW_L_witness 0 rfl, kx_at_l kxW_L_witness 1 rfl, kx_at_l kxW_L_witness 2 rfl, kx_at_l kxC_L 3 rfl, by decide +kernel, by decide +kernel, by decide +kernel⟩
def bL_witness_0 : List kx_O := [(.aload 5, 5, 0, 0, .null), (.iconst 0, 0, 0, 0, .int 0), (.aload_n 0, 0, 0, 0, .null), (.iload_n 1, 1, 0, 0, .null), (.iload_n 2, 2, 0, 0, .null), (.iload_n 3, 3, 0, 0, .null), (.iload 4, 4, 0, 0, .null)]
theorem kL_witness_0 : kx_oks kxL_L false cL_witness 0 bL_witness_0 = true := by decide +kernel
def bL_witness_12 : List kx_O := [(.i2l, 0, 0, 0, .null), (.lastore, 0, 0, 0, .null), (.goto 7, 21, 0, 0, .null)]
theorem kL_witness_12 : kx_oks kxL_L false cL_witness 12 bL_witness_12 = true := by decide +kernel
def bL_witness_17 : List kx_O := [(.astore 6, 6, 0, 0, .null), (.iconst 1, 0, 0, 0, .int 1), (.ireturn, 0, 0, 0, .null)]
theorem kL_witness_17 : kx_oks kxL_L false cL_witness 17 bL_witness_17 = true := by decide +kernel
def bL_witness_21 : List kx_O := [(.iconst 0, 0, 0, 0, .int 0), (.ireturn, 0, 0, 0, .null)]
theorem kL_witness_21 : kx_oks kxL_L false cL_witness 21 bL_witness_21 = true := by decide +kernel
theorem dL_witness_9 : decode cL_witness 9 = .ok (.invokevirtual 72, 3) := by decide +kernel
set_option maxHeartbeats 4000000 in
theorem cw_witness_t (l : Launch) (G : kx_G) {P : kx_P} {sz : Nat} {f : Nat → Value} (h64 : P 64 = kO 10 f) {xa xb xc xd : Int32} {d mc ms : Nat} {Po : Option Value → kx_P → Nat → Prop} (hM : kx_Mn l G sX10_witness d mc ms (.ref 64 :: [.int xa, .int xb, .int xc, .int xd]) P sz Po) (hp : ∀ r P2 s2, Po r P2 s2 → ∃ (v : Value) (go : Nat → Int64), r = some v ∧ cvT sX11_witness v ∧ P2 143 = kL 1 go) : kx_Mw l G sL_witness hL_witness (d + 1) mc ms [.ref 64, .int xa, .int xb, .int xc, .int xd, .ref 143] P sz (cPt Po) := by
  refine kx_mkw kx_tab kxLok_L [some (.ref 64), some (.int xa), some (.int xb), some (.int xc), some (.int xd), some (.ref 143), none] ⟨by decide +kernel, rfl, by omega⟩ rfl (fun r P' s' h => by obtain ⟨v, P2, go, -, h, -⟩ := h; exact ⟨0, h⟩) rfl rfl (fun g hB hC hN hK => ?_)
  refine hB bL_witness_0 _ _ _ _ _ _ _ kL_witness_0 ?_
  dsimp only [bL_witness_0, kx_wp, kx_step, kx_lI, kx_lL, kx_lA, kx_gl, kx_pI, kx_pL, kx_pR, kx_pA, kx_pV, kx_s1, kx_s2, kx_sl, kx_pre, kx_c2, kx_pl, kx_cmp, kx_oF, kx_eqN, kx_nil, kx_c1, kx_ft, kx_aI, kx_aL, kx_aR, kx_ln, Nat.reduceAdd, Option.toList, List.cons_append, List.nil_append]
  refine hN.1 72 _ _ _ _ _ _ _ 10 _ _ _ _ _ _ _ _ _ _ lL_72 hM ⟨by decide, rfl⟩ h64 rfl rfl (Nat.le_of_ble_eq_true rfl) (by omega) (by decide) (by omega) (by omega) dL_witness_9 ?_
  intro r P2 s2 hP2
  obtain ⟨v, go, e1, e2, e3⟩ := hp r P2 s2 hP2
  subst e1
  obtain ⟨x, e4⟩ := e2.2 (by decide)
  subst e4
  dsimp only [Option.toList, List.cons_append, List.nil_append]
  refine hB bL_witness_12 _ _ _ _ _ _ _ kL_witness_12 ?_
  dsimp only [bL_witness_12, kx_wp, kx_step, kx_lI, kx_lL, kx_lA, kx_gl, kx_pI, kx_pL, kx_pR, kx_pA, kx_pV, kx_s1, kx_s2, kx_sl, kx_pre, kx_c2, kx_pl, kx_cmp, kx_oF, kx_eqN, kx_nil, kx_c1, kx_ft, kx_aI, kx_aL, kx_aR, kx_ln, Nat.reduceAdd, Option.toList, List.cons_append, List.nil_append]
  simp only [e3]
  try dsimp only [kx_wp, kx_step, kx_lI, kx_lL, kx_lA, kx_gl, kx_pI, kx_pL, kx_pR, kx_pA, kx_pV, kx_s1, kx_s2, kx_sl, kx_pre, kx_c2, kx_pl, kx_cmp, kx_oF, kx_eqN, kx_nil, kx_c1, kx_ft, kx_aI, kx_aL, kx_aR, kx_ln, Nat.reduceAdd, Option.toList, List.cons_append, List.nil_append]
  refine ⟨by decide, by unfold vp_in; decide, ?_⟩
  refine hB bL_witness_21 _ _ _ _ _ _ _ kL_witness_21 ?_
  dsimp only [bL_witness_21, kx_wp, kx_step, kx_lI, kx_lL, kx_lA, kx_gl, kx_pI, kx_pL, kx_pR, kx_pA, kx_pV, kx_s1, kx_s2, kx_sl, kx_pre, kx_c2, kx_pl, kx_cmp, kx_oF, kx_eqN, kx_nil, kx_c1, kx_ft, kx_aI, kx_aL, kx_aR, kx_ln, Nat.reduceAdd, Option.toList, List.cons_append, List.nil_append]
  exact ⟨_, P2, go, hP2, rfl, e3, rfl⟩

theorem dL_witness_17 : decode cL_witness 17 = .ok (.astore 6, 2) := by decide +kernel
theorem dL_witness_19 : decode cL_witness 19 = .ok (.iconst 1, 1) := by decide +kernel
theorem dL_witness_20 : decode cL_witness 20 = .ok (.ireturn, 1) := by decide +kernel
set_option maxHeartbeats 4000000 in
theorem cw_witness_x0 (l : Launch) (G : kx_G) {P : kx_P} {sz : Nat} {f : Nat → Value} (h64 : P 64 = kO 10 f) {xa xb xc xd : Int32} {d : Nat} (hM : kx_X l G sX10_witness d (.ref 64 :: [.int xa, .int xb, .int xc, .int xd]) P sz "java/lang/IllegalArgumentException") : kx_Mw l G sL_witness hL_witness (d + 1) 1 6 [.ref 64, .int xa, .int xb, .int xc, .int xd, .ref 143] P sz (cPx P sz 1) := by
  refine kx_mkw kx_tab kxLok_L [some (.ref 64), some (.int xa), some (.int xb), some (.int xc), some (.int xd), some (.ref 143), none] ⟨by decide +kernel, rfl, by omega⟩ rfl (fun r P' s' h => ⟨_, h.1⟩) rfl rfl (fun g hB hC hN hK => ?_)
  refine hB bL_witness_0 _ _ _ _ _ _ _ kL_witness_0 ?_
  dsimp only [bL_witness_0, kx_wp, kx_step, kx_lI, kx_lL, kx_lA, kx_gl, kx_pI, kx_pL, kx_pR, kx_pA, kx_pV, kx_s1, kx_s2, kx_sl, kx_pre, kx_c2, kx_pl, kx_cmp, kx_oF, kx_eqN, kx_nil, kx_c1, kx_ft, kx_aI, kx_aL, kx_aR, kx_ln, Nat.reduceAdd, Option.toList, List.cons_append, List.nil_append]
  exact hK 72 _ _ _ _ _ 10 _ [.int 0, .ref 143] _ _ _ _ _ "java/lang/IllegalArgumentException" [] [] (0, 14, 17, 13) 2 1 lL_72 hM ⟨by decide, rfl⟩ h64 rfl rfl (Nat.le_of_ble_eq_true rfl) (by omega) (by decide) (by decide) (by decide) dL_witness_9 rfl (by decide) (by decide) (by decide) (kx_at_l kxC_L 0 rfl) (fun q h => by cases h) (Or.inr ⟨6, dL_witness_17, Nat.le_of_ble_eq_true rfl, rfl⟩) dL_witness_19 dL_witness_20 (fun s2 hs => ⟨rfl, rfl, hs⟩)

abbrev sL_keeper : kx_S := (yL_keeper, cL_keeper, 5, some .int)
abbrev hL_keeper : List (Nat × Nat × Nat × Nat) := [(0, 10, 13, 13)]
theorem kxW_L_keeper : ∀ w ∈ [Cond.methodLink RL 194 yL_keeper, Cond.static yL_keeper, Cond.codeWith yL_keeper cL_keeper 5 (some .int) hL_keeper], w ∈ kx_ws := kx_in_tbl [1329, 1330, 1331] (by decide +kernel) (by decide +kernel)
theorem lL_194 : kx_lS9 RL 194 sL_keeper hL_keeper 4 := ⟨kx_at_l kxW_L_keeper 0 rfl, kx_at_l kxW_L_keeper 1 rfl, kx_at_l kxW_L_keeper 2 rfl, kx_at_l kxC_L 3 rfl, by decide +kernel, by decide +kernel, by decide +kernel⟩
def bL_keeper_0 : List kx_O := [(.aload_n 3, 3, 0, 0, .null), (.iconst 0, 0, 0, 0, .int 0), (.aload_n 0, 0, 0, 0, .null), (.iload_n 1, 1, 0, 0, .null), (.iload_n 2, 2, 0, 0, .null)]
theorem kL_keeper_0 : kx_oks kxL_L false cL_keeper 0 bL_keeper_0 = true := by decide +kernel
def bL_keeper_8 : List kx_O := [(.i2l, 0, 0, 0, .null), (.lastore, 0, 0, 0, .null), (.goto 7, 17, 0, 0, .null)]
theorem kL_keeper_8 : kx_oks kxL_L false cL_keeper 8 bL_keeper_8 = true := by decide +kernel
def bL_keeper_13 : List kx_O := [(.astore 4, 4, 0, 0, .null), (.iconst 1, 0, 0, 0, .int 1), (.ireturn, 0, 0, 0, .null)]
theorem kL_keeper_13 : kx_oks kxL_L false cL_keeper 13 bL_keeper_13 = true := by decide +kernel
def bL_keeper_17 : List kx_O := [(.iconst 0, 0, 0, 0, .int 0), (.ireturn, 0, 0, 0, .null)]
theorem kL_keeper_17 : kx_oks kxL_L false cL_keeper 17 bL_keeper_17 = true := by decide +kernel
theorem dL_keeper_5 : decode cL_keeper 5 = .ok (.invokevirtual 75, 3) := by decide +kernel
set_option maxHeartbeats 4000000 in
theorem cw_keeper_t (l : Launch) (G : kx_G) {P : kx_P} {sz : Nat} {f : Nat → Value} (h64 : P 64 = kO 10 f) {xa xb : Int32} {d mc ms : Nat} {Po : Option Value → kx_P → Nat → Prop} (hM : kx_Mn l G sX10_keeper d mc ms (.ref 64 :: [.int xa, .int xb]) P sz Po) (hp : ∀ r P2 s2, Po r P2 s2 → ∃ (v : Value) (go : Nat → Int64), r = some v ∧ cvT sX11_keeper v ∧ P2 143 = kL 1 go) : kx_Mw l G sL_keeper hL_keeper (d + 1) mc ms [.ref 64, .int xa, .int xb, .ref 143] P sz (cPt Po) := by
  refine kx_mkw kx_tab kxLok_L [some (.ref 64), some (.int xa), some (.int xb), some (.ref 143), none] ⟨by decide +kernel, rfl, by omega⟩ rfl (fun r P' s' h => by obtain ⟨v, P2, go, -, h, -⟩ := h; exact ⟨0, h⟩) rfl rfl (fun g hB hC hN hK => ?_)
  refine hB bL_keeper_0 _ _ _ _ _ _ _ kL_keeper_0 ?_
  dsimp only [bL_keeper_0, kx_wp, kx_step, kx_lI, kx_lL, kx_lA, kx_gl, kx_pI, kx_pL, kx_pR, kx_pA, kx_pV, kx_s1, kx_s2, kx_sl, kx_pre, kx_c2, kx_pl, kx_cmp, kx_oF, kx_eqN, kx_nil, kx_c1, kx_ft, kx_aI, kx_aL, kx_aR, kx_ln, Nat.reduceAdd, Option.toList, List.cons_append, List.nil_append]
  refine hN.1 75 _ _ _ _ _ _ _ 10 _ _ _ _ _ _ _ _ _ _ lL_75 hM ⟨by decide, rfl⟩ h64 rfl rfl (Nat.le_of_ble_eq_true rfl) (by omega) (by decide) (by omega) (by omega) dL_keeper_5 ?_
  intro r P2 s2 hP2
  obtain ⟨v, go, e1, e2, e3⟩ := hp r P2 s2 hP2
  subst e1
  obtain ⟨x, e4⟩ := e2.2 (by decide)
  subst e4
  dsimp only [Option.toList, List.cons_append, List.nil_append]
  refine hB bL_keeper_8 _ _ _ _ _ _ _ kL_keeper_8 ?_
  dsimp only [bL_keeper_8, kx_wp, kx_step, kx_lI, kx_lL, kx_lA, kx_gl, kx_pI, kx_pL, kx_pR, kx_pA, kx_pV, kx_s1, kx_s2, kx_sl, kx_pre, kx_c2, kx_pl, kx_cmp, kx_oF, kx_eqN, kx_nil, kx_c1, kx_ft, kx_aI, kx_aL, kx_aR, kx_ln, Nat.reduceAdd, Option.toList, List.cons_append, List.nil_append]
  simp only [e3]
  try dsimp only [kx_wp, kx_step, kx_lI, kx_lL, kx_lA, kx_gl, kx_pI, kx_pL, kx_pR, kx_pA, kx_pV, kx_s1, kx_s2, kx_sl, kx_pre, kx_c2, kx_pl, kx_cmp, kx_oF, kx_eqN, kx_nil, kx_c1, kx_ft, kx_aI, kx_aL, kx_aR, kx_ln, Nat.reduceAdd, Option.toList, List.cons_append, List.nil_append]
  refine ⟨by decide, by unfold vp_in; decide, ?_⟩
  refine hB bL_keeper_17 _ _ _ _ _ _ _ kL_keeper_17 ?_
  dsimp only [bL_keeper_17, kx_wp, kx_step, kx_lI, kx_lL, kx_lA, kx_gl, kx_pI, kx_pL, kx_pR, kx_pA, kx_pV, kx_s1, kx_s2, kx_sl, kx_pre, kx_c2, kx_pl, kx_cmp, kx_oF, kx_eqN, kx_nil, kx_c1, kx_ft, kx_aI, kx_aL, kx_aR, kx_ln, Nat.reduceAdd, Option.toList, List.cons_append, List.nil_append]
  exact ⟨_, P2, go, hP2, rfl, e3, rfl⟩

theorem dL_keeper_13 : decode cL_keeper 13 = .ok (.astore 4, 2) := by decide +kernel
theorem dL_keeper_15 : decode cL_keeper 15 = .ok (.iconst 1, 1) := by decide +kernel
theorem dL_keeper_16 : decode cL_keeper 16 = .ok (.ireturn, 1) := by decide +kernel
set_option maxHeartbeats 4000000 in
theorem cw_keeper_x0 (l : Launch) (G : kx_G) {P : kx_P} {sz : Nat} {f : Nat → Value} (h64 : P 64 = kO 10 f) {xa xb : Int32} {d : Nat} (hM : kx_X l G sX10_keeper d (.ref 64 :: [.int xa, .int xb]) P sz "java/lang/IllegalArgumentException") : kx_Mw l G sL_keeper hL_keeper (d + 1) 1 6 [.ref 64, .int xa, .int xb, .ref 143] P sz (cPx P sz 1) := by
  refine kx_mkw kx_tab kxLok_L [some (.ref 64), some (.int xa), some (.int xb), some (.ref 143), none] ⟨by decide +kernel, rfl, by omega⟩ rfl (fun r P' s' h => ⟨_, h.1⟩) rfl rfl (fun g hB hC hN hK => ?_)
  refine hB bL_keeper_0 _ _ _ _ _ _ _ kL_keeper_0 ?_
  dsimp only [bL_keeper_0, kx_wp, kx_step, kx_lI, kx_lL, kx_lA, kx_gl, kx_pI, kx_pL, kx_pR, kx_pA, kx_pV, kx_s1, kx_s2, kx_sl, kx_pre, kx_c2, kx_pl, kx_cmp, kx_oF, kx_eqN, kx_nil, kx_c1, kx_ft, kx_aI, kx_aL, kx_aR, kx_ln, Nat.reduceAdd, Option.toList, List.cons_append, List.nil_append]
  exact hK 75 _ _ _ _ _ 10 _ [.int 0, .ref 143] _ _ _ _ _ "java/lang/IllegalArgumentException" [] [] (0, 10, 13, 13) 2 1 lL_75 hM ⟨by decide, rfl⟩ h64 rfl rfl (Nat.le_of_ble_eq_true rfl) (by omega) (by decide) (by decide) (by decide) dL_keeper_5 rfl (by decide) (by decide) (by decide) (kx_at_l kxC_L 0 rfl) (fun q h => by cases h) (Or.inr ⟨4, dL_keeper_13, Nat.le_of_ble_eq_true rfl, rfl⟩) dL_keeper_15 dL_keeper_16 (fun s2 hs => ⟨rfl, rfl, hs⟩)

abbrev sL_round : kx_S := (yL_round, cL_round, 5, some .int)
abbrev hL_round : List (Nat × Nat × Nat × Nat) := [(0, 10, 13, 13)]
theorem kxW_L_round : ∀ w ∈ [Cond.methodLink RL 197 yL_round, Cond.static yL_round, Cond.codeWith yL_round cL_round 5 (some .int) hL_round], w ∈ kx_ws := kx_in_tbl [1337, 1338, 1339] (by decide +kernel) (by decide +kernel)
theorem lL_197 : kx_lS9 RL 197 sL_round hL_round 4 := ⟨kx_at_l kxW_L_round 0 rfl, kx_at_l kxW_L_round 1 rfl, kx_at_l kxW_L_round 2 rfl, kx_at_l kxC_L 3 rfl, by decide +kernel, by decide +kernel, by decide +kernel⟩
def bL_round_0 : List kx_O := [(.aload_n 3, 3, 0, 0, .null), (.iconst 0, 0, 0, 0, .int 0), (.aload_n 0, 0, 0, 0, .null), (.iload_n 1, 1, 0, 0, .null), (.iload_n 2, 2, 0, 0, .null)]
theorem kL_round_0 : kx_oks kxL_L false cL_round 0 bL_round_0 = true := by decide +kernel
def bL_round_8 : List kx_O := [(.i2l, 0, 0, 0, .null), (.lastore, 0, 0, 0, .null), (.goto 7, 17, 0, 0, .null)]
theorem kL_round_8 : kx_oks kxL_L false cL_round 8 bL_round_8 = true := by decide +kernel
def bL_round_13 : List kx_O := [(.astore 4, 4, 0, 0, .null), (.iconst 1, 0, 0, 0, .int 1), (.ireturn, 0, 0, 0, .null)]
theorem kL_round_13 : kx_oks kxL_L false cL_round 13 bL_round_13 = true := by decide +kernel
def bL_round_17 : List kx_O := [(.iconst 0, 0, 0, 0, .int 0), (.ireturn, 0, 0, 0, .null)]
theorem kL_round_17 : kx_oks kxL_L false cL_round 17 bL_round_17 = true := by decide +kernel
theorem dL_round_5 : decode cL_round 5 = .ok (.invokevirtual 78, 3) := by decide +kernel
set_option maxHeartbeats 4000000 in
theorem cw_round_t (l : Launch) (G : kx_G) {P : kx_P} {sz : Nat} {f : Nat → Value} (h64 : P 64 = kO 10 f) {xa xb : Int32} {d mc ms : Nat} {Po : Option Value → kx_P → Nat → Prop} (hM : kx_Mn l G sX10_round d mc ms (.ref 64 :: [.int xa, .int xb]) P sz Po) (hp : ∀ r P2 s2, Po r P2 s2 → ∃ (v : Value) (go : Nat → Int64), r = some v ∧ cvT sX11_round v ∧ P2 143 = kL 1 go) : kx_Mw l G sL_round hL_round (d + 1) mc ms [.ref 64, .int xa, .int xb, .ref 143] P sz (cPt Po) := by
  refine kx_mkw kx_tab kxLok_L [some (.ref 64), some (.int xa), some (.int xb), some (.ref 143), none] ⟨by decide +kernel, rfl, by omega⟩ rfl (fun r P' s' h => by obtain ⟨v, P2, go, -, h, -⟩ := h; exact ⟨0, h⟩) rfl rfl (fun g hB hC hN hK => ?_)
  refine hB bL_round_0 _ _ _ _ _ _ _ kL_round_0 ?_
  dsimp only [bL_round_0, kx_wp, kx_step, kx_lI, kx_lL, kx_lA, kx_gl, kx_pI, kx_pL, kx_pR, kx_pA, kx_pV, kx_s1, kx_s2, kx_sl, kx_pre, kx_c2, kx_pl, kx_cmp, kx_oF, kx_eqN, kx_nil, kx_c1, kx_ft, kx_aI, kx_aL, kx_aR, kx_ln, Nat.reduceAdd, Option.toList, List.cons_append, List.nil_append]
  refine hN.1 78 _ _ _ _ _ _ _ 10 _ _ _ _ _ _ _ _ _ _ lL_78 hM ⟨by decide, rfl⟩ h64 rfl rfl (Nat.le_of_ble_eq_true rfl) (by omega) (by decide) (by omega) (by omega) dL_round_5 ?_
  intro r P2 s2 hP2
  obtain ⟨v, go, e1, e2, e3⟩ := hp r P2 s2 hP2
  subst e1
  obtain ⟨x, e4⟩ := e2.2 (by decide)
  subst e4
  dsimp only [Option.toList, List.cons_append, List.nil_append]
  refine hB bL_round_8 _ _ _ _ _ _ _ kL_round_8 ?_
  dsimp only [bL_round_8, kx_wp, kx_step, kx_lI, kx_lL, kx_lA, kx_gl, kx_pI, kx_pL, kx_pR, kx_pA, kx_pV, kx_s1, kx_s2, kx_sl, kx_pre, kx_c2, kx_pl, kx_cmp, kx_oF, kx_eqN, kx_nil, kx_c1, kx_ft, kx_aI, kx_aL, kx_aR, kx_ln, Nat.reduceAdd, Option.toList, List.cons_append, List.nil_append]
  simp only [e3]
  try dsimp only [kx_wp, kx_step, kx_lI, kx_lL, kx_lA, kx_gl, kx_pI, kx_pL, kx_pR, kx_pA, kx_pV, kx_s1, kx_s2, kx_sl, kx_pre, kx_c2, kx_pl, kx_cmp, kx_oF, kx_eqN, kx_nil, kx_c1, kx_ft, kx_aI, kx_aL, kx_aR, kx_ln, Nat.reduceAdd, Option.toList, List.cons_append, List.nil_append]
  refine ⟨by decide, by unfold vp_in; decide, ?_⟩
  refine hB bL_round_17 _ _ _ _ _ _ _ kL_round_17 ?_
  dsimp only [bL_round_17, kx_wp, kx_step, kx_lI, kx_lL, kx_lA, kx_gl, kx_pI, kx_pL, kx_pR, kx_pA, kx_pV, kx_s1, kx_s2, kx_sl, kx_pre, kx_c2, kx_pl, kx_cmp, kx_oF, kx_eqN, kx_nil, kx_c1, kx_ft, kx_aI, kx_aL, kx_aR, kx_ln, Nat.reduceAdd, Option.toList, List.cons_append, List.nil_append]
  exact ⟨_, P2, go, hP2, rfl, e3, rfl⟩

theorem dL_round_13 : decode cL_round 13 = .ok (.astore 4, 2) := by decide +kernel
theorem dL_round_15 : decode cL_round 15 = .ok (.iconst 1, 1) := by decide +kernel
theorem dL_round_16 : decode cL_round 16 = .ok (.ireturn, 1) := by decide +kernel
set_option maxHeartbeats 4000000 in
theorem cw_round_x0 (l : Launch) (G : kx_G) {P : kx_P} {sz : Nat} {f : Nat → Value} (h64 : P 64 = kO 10 f) {xa xb : Int32} {d : Nat} (hM : kx_X l G sX10_round d (.ref 64 :: [.int xa, .int xb]) P sz "java/lang/IllegalArgumentException") : kx_Mw l G sL_round hL_round (d + 1) 1 6 [.ref 64, .int xa, .int xb, .ref 143] P sz (cPx P sz 1) := by
  refine kx_mkw kx_tab kxLok_L [some (.ref 64), some (.int xa), some (.int xb), some (.ref 143), none] ⟨by decide +kernel, rfl, by omega⟩ rfl (fun r P' s' h => ⟨_, h.1⟩) rfl rfl (fun g hB hC hN hK => ?_)
  refine hB bL_round_0 _ _ _ _ _ _ _ kL_round_0 ?_
  dsimp only [bL_round_0, kx_wp, kx_step, kx_lI, kx_lL, kx_lA, kx_gl, kx_pI, kx_pL, kx_pR, kx_pA, kx_pV, kx_s1, kx_s2, kx_sl, kx_pre, kx_c2, kx_pl, kx_cmp, kx_oF, kx_eqN, kx_nil, kx_c1, kx_ft, kx_aI, kx_aL, kx_aR, kx_ln, Nat.reduceAdd, Option.toList, List.cons_append, List.nil_append]
  exact hK 78 _ _ _ _ _ 10 _ [.int 0, .ref 143] _ _ _ _ _ "java/lang/IllegalArgumentException" [] [] (0, 10, 13, 13) 2 1 lL_78 hM ⟨by decide, rfl⟩ h64 rfl rfl (Nat.le_of_ble_eq_true rfl) (by omega) (by decide) (by decide) (by decide) dL_round_5 rfl (by decide) (by decide) (by decide) (kx_at_l kxC_L 0 rfl) (fun q h => by cases h) (Or.inr ⟨4, dL_round_13, Nat.le_of_ble_eq_true rfl, rfl⟩) dL_round_15 dL_round_16 (fun s2 hs => ⟨rfl, rfl, hs⟩)

abbrev sL_plan : kx_S := (yL_plan, cL_plan, 7, some .int)
abbrev hL_plan : List (Nat × Nat × Nat × Nat) := [(0, 14, 17, 13)]
theorem kxW_L_plan : ∀ w ∈ [Cond.methodLink RL 200 yL_plan, Cond.static yL_plan, Cond.codeWith yL_plan cL_plan 7 (some .int) hL_plan], w ∈ kx_ws := kx_in_tbl [1380, 1381, 1382] (by decide +kernel) (by decide +kernel)
theorem lL_200 : kx_lS9 RL 200 sL_plan hL_plan 6 := ⟨kx_at_l kxW_L_plan 0 rfl, kx_at_l kxW_L_plan 1 rfl, kx_at_l kxW_L_plan 2 rfl, kx_at_l kxC_L 3 rfl, by decide +kernel, by decide +kernel, by decide +kernel⟩
def bL_plan_0 : List kx_O := [(.aload 5, 5, 0, 0, .null), (.iconst 0, 0, 0, 0, .int 0), (.aload_n 0, 0, 0, 0, .null), (.iload_n 1, 1, 0, 0, .null), (.iload_n 2, 2, 0, 0, .null), (.iload_n 3, 3, 0, 0, .null), (.iload 4, 4, 0, 0, .null)]
theorem kL_plan_0 : kx_oks kxL_L false cL_plan 0 bL_plan_0 = true := by decide +kernel
def bL_plan_12 : List kx_O := [(.i2l, 0, 0, 0, .null), (.lastore, 0, 0, 0, .null), (.goto 7, 21, 0, 0, .null)]
theorem kL_plan_12 : kx_oks kxL_L false cL_plan 12 bL_plan_12 = true := by decide +kernel
def bL_plan_17 : List kx_O := [(.astore 6, 6, 0, 0, .null), (.iconst 1, 0, 0, 0, .int 1), (.ireturn, 0, 0, 0, .null)]
theorem kL_plan_17 : kx_oks kxL_L false cL_plan 17 bL_plan_17 = true := by decide +kernel
def bL_plan_21 : List kx_O := [(.iconst 0, 0, 0, 0, .int 0), (.ireturn, 0, 0, 0, .null)]
theorem kL_plan_21 : kx_oks kxL_L false cL_plan 21 bL_plan_21 = true := by decide +kernel
theorem dL_plan_9 : decode cL_plan 9 = .ok (.invokevirtual 81, 3) := by decide +kernel
set_option maxHeartbeats 4000000 in
theorem cw_plan_t (l : Launch) (G : kx_G) {P : kx_P} {sz : Nat} {f : Nat → Value} (h64 : P 64 = kO 10 f) {xa xb xc xd : Int32} {d mc ms : Nat} {Po : Option Value → kx_P → Nat → Prop} (hM : kx_Mn l G sX10_plan d mc ms (.ref 64 :: [.int xa, .int xb, .int xc, .int xd]) P sz Po) (hp : ∀ r P2 s2, Po r P2 s2 → ∃ (v : Value) (go : Nat → Int64), r = some v ∧ cvT sX11_plan v ∧ P2 143 = kL 1 go) : kx_Mw l G sL_plan hL_plan (d + 1) mc ms [.ref 64, .int xa, .int xb, .int xc, .int xd, .ref 143] P sz (cPt Po) := by
  refine kx_mkw kx_tab kxLok_L [some (.ref 64), some (.int xa), some (.int xb), some (.int xc), some (.int xd), some (.ref 143), none] ⟨by decide +kernel, rfl, by omega⟩ rfl (fun r P' s' h => by obtain ⟨v, P2, go, -, h, -⟩ := h; exact ⟨0, h⟩) rfl rfl (fun g hB hC hN hK => ?_)
  refine hB bL_plan_0 _ _ _ _ _ _ _ kL_plan_0 ?_
  dsimp only [bL_plan_0, kx_wp, kx_step, kx_lI, kx_lL, kx_lA, kx_gl, kx_pI, kx_pL, kx_pR, kx_pA, kx_pV, kx_s1, kx_s2, kx_sl, kx_pre, kx_c2, kx_pl, kx_cmp, kx_oF, kx_eqN, kx_nil, kx_c1, kx_ft, kx_aI, kx_aL, kx_aR, kx_ln, Nat.reduceAdd, Option.toList, List.cons_append, List.nil_append]
  refine hN.1 81 _ _ _ _ _ _ _ 10 _ _ _ _ _ _ _ _ _ _ lL_81 hM ⟨by decide, rfl⟩ h64 rfl rfl (Nat.le_of_ble_eq_true rfl) (by omega) (by decide) (by omega) (by omega) dL_plan_9 ?_
  intro r P2 s2 hP2
  obtain ⟨v, go, e1, e2, e3⟩ := hp r P2 s2 hP2
  subst e1
  obtain ⟨x, e4⟩ := e2.2 (by decide)
  subst e4
  dsimp only [Option.toList, List.cons_append, List.nil_append]
  refine hB bL_plan_12 _ _ _ _ _ _ _ kL_plan_12 ?_
  dsimp only [bL_plan_12, kx_wp, kx_step, kx_lI, kx_lL, kx_lA, kx_gl, kx_pI, kx_pL, kx_pR, kx_pA, kx_pV, kx_s1, kx_s2, kx_sl, kx_pre, kx_c2, kx_pl, kx_cmp, kx_oF, kx_eqN, kx_nil, kx_c1, kx_ft, kx_aI, kx_aL, kx_aR, kx_ln, Nat.reduceAdd, Option.toList, List.cons_append, List.nil_append]
  simp only [e3]
  try dsimp only [kx_wp, kx_step, kx_lI, kx_lL, kx_lA, kx_gl, kx_pI, kx_pL, kx_pR, kx_pA, kx_pV, kx_s1, kx_s2, kx_sl, kx_pre, kx_c2, kx_pl, kx_cmp, kx_oF, kx_eqN, kx_nil, kx_c1, kx_ft, kx_aI, kx_aL, kx_aR, kx_ln, Nat.reduceAdd, Option.toList, List.cons_append, List.nil_append]
  refine ⟨by decide, by unfold vp_in; decide, ?_⟩
  refine hB bL_plan_21 _ _ _ _ _ _ _ kL_plan_21 ?_
  dsimp only [bL_plan_21, kx_wp, kx_step, kx_lI, kx_lL, kx_lA, kx_gl, kx_pI, kx_pL, kx_pR, kx_pA, kx_pV, kx_s1, kx_s2, kx_sl, kx_pre, kx_c2, kx_pl, kx_cmp, kx_oF, kx_eqN, kx_nil, kx_c1, kx_ft, kx_aI, kx_aL, kx_aR, kx_ln, Nat.reduceAdd, Option.toList, List.cons_append, List.nil_append]
  exact ⟨_, P2, go, hP2, rfl, e3, rfl⟩

theorem dL_plan_17 : decode cL_plan 17 = .ok (.astore 6, 2) := by decide +kernel
theorem dL_plan_19 : decode cL_plan 19 = .ok (.iconst 1, 1) := by decide +kernel
theorem dL_plan_20 : decode cL_plan 20 = .ok (.ireturn, 1) := by decide +kernel
set_option maxHeartbeats 4000000 in
theorem cw_plan_x0 (l : Launch) (G : kx_G) {P : kx_P} {sz : Nat} {f : Nat → Value} (h64 : P 64 = kO 10 f) {xa xb xc xd : Int32} {d : Nat} (hM : kx_X l G sX10_plan d (.ref 64 :: [.int xa, .int xb, .int xc, .int xd]) P sz "java/lang/IllegalArgumentException") : kx_Mw l G sL_plan hL_plan (d + 1) 1 6 [.ref 64, .int xa, .int xb, .int xc, .int xd, .ref 143] P sz (cPx P sz 1) := by
  refine kx_mkw kx_tab kxLok_L [some (.ref 64), some (.int xa), some (.int xb), some (.int xc), some (.int xd), some (.ref 143), none] ⟨by decide +kernel, rfl, by omega⟩ rfl (fun r P' s' h => ⟨_, h.1⟩) rfl rfl (fun g hB hC hN hK => ?_)
  refine hB bL_plan_0 _ _ _ _ _ _ _ kL_plan_0 ?_
  dsimp only [bL_plan_0, kx_wp, kx_step, kx_lI, kx_lL, kx_lA, kx_gl, kx_pI, kx_pL, kx_pR, kx_pA, kx_pV, kx_s1, kx_s2, kx_sl, kx_pre, kx_c2, kx_pl, kx_cmp, kx_oF, kx_eqN, kx_nil, kx_c1, kx_ft, kx_aI, kx_aL, kx_aR, kx_ln, Nat.reduceAdd, Option.toList, List.cons_append, List.nil_append]
  exact hK 81 _ _ _ _ _ 10 _ [.int 0, .ref 143] _ _ _ _ _ "java/lang/IllegalArgumentException" [] [] (0, 14, 17, 13) 2 1 lL_81 hM ⟨by decide, rfl⟩ h64 rfl rfl (Nat.le_of_ble_eq_true rfl) (by omega) (by decide) (by decide) (by decide) dL_plan_9 rfl (by decide) (by decide) (by decide) (kx_at_l kxC_L 0 rfl) (fun q h => by cases h) (Or.inr ⟨6, dL_plan_17, Nat.le_of_ble_eq_true rfl, rfl⟩) dL_plan_19 dL_plan_20 (fun s2 hs => ⟨rfl, rfl, hs⟩)

abbrev sL_read : kx_S := (yL_read, cL_read, 6, some .int)
abbrev hL_read : List (Nat × Nat × Nat × Nat) := [(0, 12, 15, 27), (0, 12, 19, 13)]
theorem kxW_L_read : ∀ w ∈ [Cond.methodLink RL 203 yL_read, Cond.static yL_read, Cond.codeWith yL_read cL_read 6 (some .int) hL_read], w ∈ kx_ws := kx_in_tbl [1433, 1434, 1435] (by decide +kernel) (by decide +kernel)
theorem lL_203 : kx_lS9 RL 203 sL_read hL_read 5 := ⟨kx_at_l kxW_L_read 0 rfl, kx_at_l kxW_L_read 1 rfl, kx_at_l kxW_L_read 2 rfl, kx_at_l kxC_L 3 rfl, by decide +kernel, by decide +kernel, by decide +kernel⟩
def bL_read_0 : List kx_O := [(.aload 4, 4, 0, 0, .null), (.iconst 0, 0, 0, 0, .int 0), (.aload_n 0, 0, 0, 0, .null), (.iload_n 1, 1, 0, 0, .null), (.iload_n 2, 2, 0, 0, .null), (.iload_n 3, 3, 0, 0, .null)]
theorem kL_read_0 : kx_oks kxL_L false cL_read 0 bL_read_0 = true := by decide +kernel
def bL_read_10 : List kx_O := [(.i2l, 0, 0, 0, .null), (.lastore, 0, 0, 0, .null), (.goto 11, 23, 0, 0, .null)]
theorem kL_read_10 : kx_oks kxL_L false cL_read 10 bL_read_10 = true := by decide +kernel
def bL_read_15 : List kx_O := [(.astore 5, 5, 0, 0, .null), (.iconst 1, 0, 0, 0, .int 1), (.ireturn, 0, 0, 0, .null)]
theorem kL_read_15 : kx_oks kxL_L false cL_read 15 bL_read_15 = true := by decide +kernel
def bL_read_19 : List kx_O := [(.astore 5, 5, 0, 0, .null), (.iconst 2, 0, 0, 0, .int 2), (.ireturn, 0, 0, 0, .null)]
theorem kL_read_19 : kx_oks kxL_L false cL_read 19 bL_read_19 = true := by decide +kernel
def bL_read_23 : List kx_O := [(.iconst 0, 0, 0, 0, .int 0), (.ireturn, 0, 0, 0, .null)]
theorem kL_read_23 : kx_oks kxL_L false cL_read 23 bL_read_23 = true := by decide +kernel
theorem dL_read_7 : decode cL_read 7 = .ok (.invokevirtual 84, 3) := by decide +kernel
set_option maxHeartbeats 4000000 in
theorem cw_read_t (l : Launch) (G : kx_G) {P : kx_P} {sz : Nat} {f : Nat → Value} (h64 : P 64 = kO 10 f) {xa xb xc : Int32} {d mc ms : Nat} {Po : Option Value → kx_P → Nat → Prop} (hM : kx_Mn l G sX10_read d mc ms (.ref 64 :: [.int xa, .int xb, .int xc]) P sz Po) (hp : ∀ r P2 s2, Po r P2 s2 → ∃ (v : Value) (go : Nat → Int64), r = some v ∧ cvT sX11_read v ∧ P2 143 = kL 1 go) : kx_Mw l G sL_read hL_read (d + 1) mc ms [.ref 64, .int xa, .int xb, .int xc, .ref 143] P sz (cPt Po) := by
  refine kx_mkw kx_tab kxLok_L [some (.ref 64), some (.int xa), some (.int xb), some (.int xc), some (.ref 143), none] ⟨by decide +kernel, rfl, by omega⟩ rfl (fun r P' s' h => by obtain ⟨v, P2, go, -, h, -⟩ := h; exact ⟨0, h⟩) rfl rfl (fun g hB hC hN hK => ?_)
  refine hB bL_read_0 _ _ _ _ _ _ _ kL_read_0 ?_
  dsimp only [bL_read_0, kx_wp, kx_step, kx_lI, kx_lL, kx_lA, kx_gl, kx_pI, kx_pL, kx_pR, kx_pA, kx_pV, kx_s1, kx_s2, kx_sl, kx_pre, kx_c2, kx_pl, kx_cmp, kx_oF, kx_eqN, kx_nil, kx_c1, kx_ft, kx_aI, kx_aL, kx_aR, kx_ln, Nat.reduceAdd, Option.toList, List.cons_append, List.nil_append]
  refine hN.1 84 _ _ _ _ _ _ _ 10 _ _ _ _ _ _ _ _ _ _ lL_84 hM ⟨by decide, rfl⟩ h64 rfl rfl (Nat.le_of_ble_eq_true rfl) (by omega) (by decide) (by omega) (by omega) dL_read_7 ?_
  intro r P2 s2 hP2
  obtain ⟨v, go, e1, e2, e3⟩ := hp r P2 s2 hP2
  subst e1
  obtain ⟨x, e4⟩ := e2.2 (by decide)
  subst e4
  dsimp only [Option.toList, List.cons_append, List.nil_append]
  refine hB bL_read_10 _ _ _ _ _ _ _ kL_read_10 ?_
  dsimp only [bL_read_10, kx_wp, kx_step, kx_lI, kx_lL, kx_lA, kx_gl, kx_pI, kx_pL, kx_pR, kx_pA, kx_pV, kx_s1, kx_s2, kx_sl, kx_pre, kx_c2, kx_pl, kx_cmp, kx_oF, kx_eqN, kx_nil, kx_c1, kx_ft, kx_aI, kx_aL, kx_aR, kx_ln, Nat.reduceAdd, Option.toList, List.cons_append, List.nil_append]
  simp only [e3]
  try dsimp only [kx_wp, kx_step, kx_lI, kx_lL, kx_lA, kx_gl, kx_pI, kx_pL, kx_pR, kx_pA, kx_pV, kx_s1, kx_s2, kx_sl, kx_pre, kx_c2, kx_pl, kx_cmp, kx_oF, kx_eqN, kx_nil, kx_c1, kx_ft, kx_aI, kx_aL, kx_aR, kx_ln, Nat.reduceAdd, Option.toList, List.cons_append, List.nil_append]
  refine ⟨by decide, by unfold vp_in; decide, ?_⟩
  refine hB bL_read_23 _ _ _ _ _ _ _ kL_read_23 ?_
  dsimp only [bL_read_23, kx_wp, kx_step, kx_lI, kx_lL, kx_lA, kx_gl, kx_pI, kx_pL, kx_pR, kx_pA, kx_pV, kx_s1, kx_s2, kx_sl, kx_pre, kx_c2, kx_pl, kx_cmp, kx_oF, kx_eqN, kx_nil, kx_c1, kx_ft, kx_aI, kx_aL, kx_aR, kx_ln, Nat.reduceAdd, Option.toList, List.cons_append, List.nil_append]
  exact ⟨_, P2, go, hP2, rfl, e3, rfl⟩

theorem dL_read_15 : decode cL_read 15 = .ok (.astore 5, 2) := by decide +kernel
theorem dL_read_17 : decode cL_read 17 = .ok (.iconst 1, 1) := by decide +kernel
theorem dL_read_18 : decode cL_read 18 = .ok (.ireturn, 1) := by decide +kernel
set_option maxHeartbeats 4000000 in
theorem cw_read_x0 (l : Launch) (G : kx_G) {P : kx_P} {sz : Nat} {f : Nat → Value} (h64 : P 64 = kO 10 f) {xa xb xc : Int32} {d : Nat} (hM : kx_X l G sX10_read d (.ref 64 :: [.int xa, .int xb, .int xc]) P sz "java/util/NoSuchElementException") : kx_Mw l G sL_read hL_read (d + 1) 1 6 [.ref 64, .int xa, .int xb, .int xc, .ref 143] P sz (cPx P sz 1) := by
  refine kx_mkw kx_tab kxLok_L [some (.ref 64), some (.int xa), some (.int xb), some (.int xc), some (.ref 143), none] ⟨by decide +kernel, rfl, by omega⟩ rfl (fun r P' s' h => ⟨_, h.1⟩) rfl rfl (fun g hB hC hN hK => ?_)
  refine hB bL_read_0 _ _ _ _ _ _ _ kL_read_0 ?_
  dsimp only [bL_read_0, kx_wp, kx_step, kx_lI, kx_lL, kx_lA, kx_gl, kx_pI, kx_pL, kx_pR, kx_pA, kx_pV, kx_s1, kx_s2, kx_sl, kx_pre, kx_c2, kx_pl, kx_cmp, kx_oF, kx_eqN, kx_nil, kx_c1, kx_ft, kx_aI, kx_aL, kx_aR, kx_ln, Nat.reduceAdd, Option.toList, List.cons_append, List.nil_append]
  exact hK 84 _ _ _ _ _ 10 _ [.int 0, .ref 143] _ _ _ _ _ "java/util/NoSuchElementException" [] [(0, 12, 19, 13)] (0, 12, 15, 27) 2 1 lL_84 hM ⟨by decide, rfl⟩ h64 rfl rfl (Nat.le_of_ble_eq_true rfl) (by omega) (by decide) (by decide) (by decide) dL_read_7 rfl (by decide) (by decide) (by decide) (kx_at_l kxC_L 1 rfl) (fun q h => by cases h) (Or.inr ⟨5, dL_read_15, Nat.le_of_ble_eq_true rfl, rfl⟩) dL_read_17 dL_read_18 (fun s2 hs => ⟨rfl, rfl, hs⟩)

theorem dL_read_19 : decode cL_read 19 = .ok (.astore 5, 2) := by decide +kernel
theorem dL_read_21 : decode cL_read 21 = .ok (.iconst 2, 1) := by decide +kernel
theorem dL_read_22 : decode cL_read 22 = .ok (.ireturn, 1) := by decide +kernel
set_option maxHeartbeats 4000000 in
theorem cw_read_x1 (l : Launch) (G : kx_G) {P : kx_P} {sz : Nat} {f : Nat → Value} (h64 : P 64 = kO 10 f) {xa xb xc : Int32} {d : Nat} (hM : kx_X l G sX10_read d (.ref 64 :: [.int xa, .int xb, .int xc]) P sz "java/lang/IllegalArgumentException") : kx_Mw l G sL_read hL_read (d + 1) 1 6 [.ref 64, .int xa, .int xb, .int xc, .ref 143] P sz (cPx P sz 2) := by
  refine kx_mkw kx_tab kxLok_L [some (.ref 64), some (.int xa), some (.int xb), some (.int xc), some (.ref 143), none] ⟨by decide +kernel, rfl, by omega⟩ rfl (fun r P' s' h => ⟨_, h.1⟩) rfl rfl (fun g hB hC hN hK => ?_)
  refine hB bL_read_0 _ _ _ _ _ _ _ kL_read_0 ?_
  dsimp only [bL_read_0, kx_wp, kx_step, kx_lI, kx_lL, kx_lA, kx_gl, kx_pI, kx_pL, kx_pR, kx_pA, kx_pV, kx_s1, kx_s2, kx_sl, kx_pre, kx_c2, kx_pl, kx_cmp, kx_oF, kx_eqN, kx_nil, kx_c1, kx_ft, kx_aI, kx_aL, kx_aR, kx_ln, Nat.reduceAdd, Option.toList, List.cons_append, List.nil_append]
  exact hK 84 _ _ _ _ _ 10 _ [.int 0, .ref 143] _ _ _ _ _ "java/lang/IllegalArgumentException" [(0, 12, 15, 27)] [] (0, 12, 19, 13) 2 2 lL_84 hM ⟨by decide, rfl⟩ h64 rfl rfl (Nat.le_of_ble_eq_true rfl) (by omega) (by decide) (by decide) (by decide) dL_read_7 rfl (by decide) (by decide) (by decide) (kx_at_l kxC_L 0 rfl) (fun q h => by
    simp only [List.mem_cons, List.not_mem_nil, or_false] at h
    rcases h with rfl
    · exact ⟨by decide, _, kx_at_l kxC_L 1 rfl, by decide⟩) (Or.inr ⟨5, dL_read_19, Nat.le_of_ble_eq_true rfl, rfl⟩) dL_read_21 dL_read_22 (fun s2 hs => ⟨rfl, rfl, hs⟩)

abbrev sL_reckoned : kx_S := (yL_reckoned, cL_reckoned, 6, some .int)
abbrev hL_reckoned : List (Nat × Nat × Nat × Nat) := [(0, 11, 14, 27), (0, 11, 18, 13)]
theorem kxW_L_reckoned : ∀ w ∈ [Cond.methodLink RL 206 yL_reckoned, Cond.static yL_reckoned, Cond.codeWith yL_reckoned cL_reckoned 6 (some .int) hL_reckoned], w ∈ kx_ws := kx_in_tbl [1446, 1447, 1448] (by decide +kernel) (by decide +kernel)
theorem lL_206 : kx_lS9 RL 206 sL_reckoned hL_reckoned 5 := ⟨kx_at_l kxW_L_reckoned 0 rfl, kx_at_l kxW_L_reckoned 1 rfl, kx_at_l kxW_L_reckoned 2 rfl, kx_at_l kxC_L 3 rfl, by decide +kernel, by decide +kernel, by decide +kernel⟩
def bL_reckoned_0 : List kx_O := [(.aload 4, 4, 0, 0, .null), (.iconst 0, 0, 0, 0, .int 0), (.aload_n 0, 0, 0, 0, .null), (.iload_n 1, 1, 0, 0, .null), (.iload_n 2, 2, 0, 0, .null), (.iload_n 3, 3, 0, 0, .null)]
theorem kL_reckoned_0 : kx_oks kxL_L false cL_reckoned 0 bL_reckoned_0 = true := by decide +kernel
def bL_reckoned_10 : List kx_O := [(.lastore, 0, 0, 0, .null), (.goto 11, 22, 0, 0, .null)]
theorem kL_reckoned_10 : kx_oks kxL_L false cL_reckoned 10 bL_reckoned_10 = true := by decide +kernel
def bL_reckoned_14 : List kx_O := [(.astore 5, 5, 0, 0, .null), (.iconst 1, 0, 0, 0, .int 1), (.ireturn, 0, 0, 0, .null)]
theorem kL_reckoned_14 : kx_oks kxL_L false cL_reckoned 14 bL_reckoned_14 = true := by decide +kernel
def bL_reckoned_18 : List kx_O := [(.astore 5, 5, 0, 0, .null), (.iconst 2, 0, 0, 0, .int 2), (.ireturn, 0, 0, 0, .null)]
theorem kL_reckoned_18 : kx_oks kxL_L false cL_reckoned 18 bL_reckoned_18 = true := by decide +kernel
def bL_reckoned_22 : List kx_O := [(.iconst 0, 0, 0, 0, .int 0), (.ireturn, 0, 0, 0, .null)]
theorem kL_reckoned_22 : kx_oks kxL_L false cL_reckoned 22 bL_reckoned_22 = true := by decide +kernel
theorem dL_reckoned_7 : decode cL_reckoned 7 = .ok (.invokevirtual 87, 3) := by decide +kernel
set_option maxHeartbeats 4000000 in
theorem cw_reckoned_t (l : Launch) (G : kx_G) {P : kx_P} {sz : Nat} {f : Nat → Value} (h64 : P 64 = kO 10 f) {xa xb xc : Int32} {d mc ms : Nat} {Po : Option Value → kx_P → Nat → Prop} (hM : kx_Mn l G sX10_reckoned d mc ms (.ref 64 :: [.int xa, .int xb, .int xc]) P sz Po) (hp : ∀ r P2 s2, Po r P2 s2 → ∃ (v : Value) (go : Nat → Int64), r = some v ∧ cvT sX11_reckoned v ∧ P2 143 = kL 1 go) : kx_Mw l G sL_reckoned hL_reckoned (d + 1) mc ms [.ref 64, .int xa, .int xb, .int xc, .ref 143] P sz (cPt Po) := by
  refine kx_mkw kx_tab kxLok_L [some (.ref 64), some (.int xa), some (.int xb), some (.int xc), some (.ref 143), none] ⟨by decide +kernel, rfl, by omega⟩ rfl (fun r P' s' h => by obtain ⟨v, P2, go, -, h, -⟩ := h; exact ⟨0, h⟩) rfl rfl (fun g hB hC hN hK => ?_)
  refine hB bL_reckoned_0 _ _ _ _ _ _ _ kL_reckoned_0 ?_
  dsimp only [bL_reckoned_0, kx_wp, kx_step, kx_lI, kx_lL, kx_lA, kx_gl, kx_pI, kx_pL, kx_pR, kx_pA, kx_pV, kx_s1, kx_s2, kx_sl, kx_pre, kx_c2, kx_pl, kx_cmp, kx_oF, kx_eqN, kx_nil, kx_c1, kx_ft, kx_aI, kx_aL, kx_aR, kx_ln, Nat.reduceAdd, Option.toList, List.cons_append, List.nil_append]
  refine hN.1 87 _ _ _ _ _ _ _ 10 _ _ _ _ _ _ _ _ _ _ lL_87 hM ⟨by decide, rfl⟩ h64 rfl rfl (Nat.le_of_ble_eq_true rfl) (by omega) (by decide) (by omega) (by omega) dL_reckoned_7 ?_
  intro r P2 s2 hP2
  obtain ⟨v, go, e1, e2, e3⟩ := hp r P2 s2 hP2
  subst e1
  obtain ⟨x, e4⟩ := e2.1 rfl
  subst e4
  dsimp only [Option.toList, List.cons_append, List.nil_append]
  refine hB bL_reckoned_10 _ _ _ _ _ _ _ kL_reckoned_10 ?_
  dsimp only [bL_reckoned_10, kx_wp, kx_step, kx_lI, kx_lL, kx_lA, kx_gl, kx_pI, kx_pL, kx_pR, kx_pA, kx_pV, kx_s1, kx_s2, kx_sl, kx_pre, kx_c2, kx_pl, kx_cmp, kx_oF, kx_eqN, kx_nil, kx_c1, kx_ft, kx_aI, kx_aL, kx_aR, kx_ln, Nat.reduceAdd, Option.toList, List.cons_append, List.nil_append]
  simp only [e3]
  try dsimp only [kx_wp, kx_step, kx_lI, kx_lL, kx_lA, kx_gl, kx_pI, kx_pL, kx_pR, kx_pA, kx_pV, kx_s1, kx_s2, kx_sl, kx_pre, kx_c2, kx_pl, kx_cmp, kx_oF, kx_eqN, kx_nil, kx_c1, kx_ft, kx_aI, kx_aL, kx_aR, kx_ln, Nat.reduceAdd, Option.toList, List.cons_append, List.nil_append]
  refine ⟨by decide, by unfold vp_in; decide, ?_⟩
  refine hB bL_reckoned_22 _ _ _ _ _ _ _ kL_reckoned_22 ?_
  dsimp only [bL_reckoned_22, kx_wp, kx_step, kx_lI, kx_lL, kx_lA, kx_gl, kx_pI, kx_pL, kx_pR, kx_pA, kx_pV, kx_s1, kx_s2, kx_sl, kx_pre, kx_c2, kx_pl, kx_cmp, kx_oF, kx_eqN, kx_nil, kx_c1, kx_ft, kx_aI, kx_aL, kx_aR, kx_ln, Nat.reduceAdd, Option.toList, List.cons_append, List.nil_append]
  exact ⟨_, P2, go, hP2, rfl, e3, rfl⟩

theorem dL_reckoned_14 : decode cL_reckoned 14 = .ok (.astore 5, 2) := by decide +kernel
theorem dL_reckoned_16 : decode cL_reckoned 16 = .ok (.iconst 1, 1) := by decide +kernel
theorem dL_reckoned_17 : decode cL_reckoned 17 = .ok (.ireturn, 1) := by decide +kernel
set_option maxHeartbeats 4000000 in
theorem cw_reckoned_x0 (l : Launch) (G : kx_G) {P : kx_P} {sz : Nat} {f : Nat → Value} (h64 : P 64 = kO 10 f) {xa xb xc : Int32} {d : Nat} (hM : kx_X l G sX10_reckoned d (.ref 64 :: [.int xa, .int xb, .int xc]) P sz "java/util/NoSuchElementException") : kx_Mw l G sL_reckoned hL_reckoned (d + 1) 1 6 [.ref 64, .int xa, .int xb, .int xc, .ref 143] P sz (cPx P sz 1) := by
  refine kx_mkw kx_tab kxLok_L [some (.ref 64), some (.int xa), some (.int xb), some (.int xc), some (.ref 143), none] ⟨by decide +kernel, rfl, by omega⟩ rfl (fun r P' s' h => ⟨_, h.1⟩) rfl rfl (fun g hB hC hN hK => ?_)
  refine hB bL_reckoned_0 _ _ _ _ _ _ _ kL_reckoned_0 ?_
  dsimp only [bL_reckoned_0, kx_wp, kx_step, kx_lI, kx_lL, kx_lA, kx_gl, kx_pI, kx_pL, kx_pR, kx_pA, kx_pV, kx_s1, kx_s2, kx_sl, kx_pre, kx_c2, kx_pl, kx_cmp, kx_oF, kx_eqN, kx_nil, kx_c1, kx_ft, kx_aI, kx_aL, kx_aR, kx_ln, Nat.reduceAdd, Option.toList, List.cons_append, List.nil_append]
  exact hK 87 _ _ _ _ _ 10 _ [.int 0, .ref 143] _ _ _ _ _ "java/util/NoSuchElementException" [] [(0, 11, 18, 13)] (0, 11, 14, 27) 2 1 lL_87 hM ⟨by decide, rfl⟩ h64 rfl rfl (Nat.le_of_ble_eq_true rfl) (by omega) (by decide) (by decide) (by decide) dL_reckoned_7 rfl (by decide) (by decide) (by decide) (kx_at_l kxC_L 1 rfl) (fun q h => by cases h) (Or.inr ⟨5, dL_reckoned_14, Nat.le_of_ble_eq_true rfl, rfl⟩) dL_reckoned_16 dL_reckoned_17 (fun s2 hs => ⟨rfl, rfl, hs⟩)

theorem dL_reckoned_18 : decode cL_reckoned 18 = .ok (.astore 5, 2) := by decide +kernel
theorem dL_reckoned_20 : decode cL_reckoned 20 = .ok (.iconst 2, 1) := by decide +kernel
theorem dL_reckoned_21 : decode cL_reckoned 21 = .ok (.ireturn, 1) := by decide +kernel
set_option maxHeartbeats 4000000 in
theorem cw_reckoned_x1 (l : Launch) (G : kx_G) {P : kx_P} {sz : Nat} {f : Nat → Value} (h64 : P 64 = kO 10 f) {xa xb xc : Int32} {d : Nat} (hM : kx_X l G sX10_reckoned d (.ref 64 :: [.int xa, .int xb, .int xc]) P sz "java/lang/IllegalArgumentException") : kx_Mw l G sL_reckoned hL_reckoned (d + 1) 1 6 [.ref 64, .int xa, .int xb, .int xc, .ref 143] P sz (cPx P sz 2) := by
  refine kx_mkw kx_tab kxLok_L [some (.ref 64), some (.int xa), some (.int xb), some (.int xc), some (.ref 143), none] ⟨by decide +kernel, rfl, by omega⟩ rfl (fun r P' s' h => ⟨_, h.1⟩) rfl rfl (fun g hB hC hN hK => ?_)
  refine hB bL_reckoned_0 _ _ _ _ _ _ _ kL_reckoned_0 ?_
  dsimp only [bL_reckoned_0, kx_wp, kx_step, kx_lI, kx_lL, kx_lA, kx_gl, kx_pI, kx_pL, kx_pR, kx_pA, kx_pV, kx_s1, kx_s2, kx_sl, kx_pre, kx_c2, kx_pl, kx_cmp, kx_oF, kx_eqN, kx_nil, kx_c1, kx_ft, kx_aI, kx_aL, kx_aR, kx_ln, Nat.reduceAdd, Option.toList, List.cons_append, List.nil_append]
  exact hK 87 _ _ _ _ _ 10 _ [.int 0, .ref 143] _ _ _ _ _ "java/lang/IllegalArgumentException" [(0, 11, 14, 27)] [] (0, 11, 18, 13) 2 2 lL_87 hM ⟨by decide, rfl⟩ h64 rfl rfl (Nat.le_of_ble_eq_true rfl) (by omega) (by decide) (by decide) (by decide) dL_reckoned_7 rfl (by decide) (by decide) (by decide) (kx_at_l kxC_L 0 rfl) (fun q h => by
    simp only [List.mem_cons, List.not_mem_nil, or_false] at h
    rcases h with rfl
    · exact ⟨by decide, _, kx_at_l kxC_L 1 rfl, by decide⟩) (Or.inr ⟨5, dL_reckoned_18, Nat.le_of_ble_eq_true rfl, rfl⟩) dL_reckoned_20 dL_reckoned_21 (fun s2 hs => ⟨rfl, rfl, hs⟩)

abbrev sL_speed : kx_S := (yL_speed, cL_speed, 5, some .int)
abbrev hL_speed : List (Nat × Nat × Nat × Nat) := [(0, 9, 12, 27)]
theorem kxW_L_speed : ∀ w ∈ [Cond.methodLink RL 209 yL_speed, Cond.static yL_speed, Cond.codeWith yL_speed cL_speed 5 (some .int) hL_speed], w ∈ kx_ws := kx_in_tbl [1470, 1471, 1472] (by decide +kernel) (by decide +kernel)
theorem lL_209 : kx_lS9 RL 209 sL_speed hL_speed 4 := ⟨kx_at_l kxW_L_speed 0 rfl, kx_at_l kxW_L_speed 1 rfl, kx_at_l kxW_L_speed 2 rfl, kx_at_l kxC_L 3 rfl, by decide +kernel, by decide +kernel, by decide +kernel⟩
def bL_speed_0 : List kx_O := [(.aload_n 3, 3, 0, 0, .null), (.iconst 0, 0, 0, 0, .int 0), (.aload_n 0, 0, 0, 0, .null), (.iload_n 1, 1, 0, 0, .null), (.iload_n 2, 2, 0, 0, .null)]
theorem kL_speed_0 : kx_oks kxL_L false cL_speed 0 bL_speed_0 = true := by decide +kernel
def bL_speed_8 : List kx_O := [(.lastore, 0, 0, 0, .null), (.goto 7, 16, 0, 0, .null)]
theorem kL_speed_8 : kx_oks kxL_L false cL_speed 8 bL_speed_8 = true := by decide +kernel
def bL_speed_12 : List kx_O := [(.astore 4, 4, 0, 0, .null), (.iconst 1, 0, 0, 0, .int 1), (.ireturn, 0, 0, 0, .null)]
theorem kL_speed_12 : kx_oks kxL_L false cL_speed 12 bL_speed_12 = true := by decide +kernel
def bL_speed_16 : List kx_O := [(.iconst 0, 0, 0, 0, .int 0), (.ireturn, 0, 0, 0, .null)]
theorem kL_speed_16 : kx_oks kxL_L false cL_speed 16 bL_speed_16 = true := by decide +kernel
theorem dL_speed_5 : decode cL_speed 5 = .ok (.invokevirtual 91, 3) := by decide +kernel
set_option maxHeartbeats 4000000 in
theorem cw_speed_t (l : Launch) (G : kx_G) {P : kx_P} {sz : Nat} {f : Nat → Value} (h64 : P 64 = kO 10 f) {xa xb : Int32} {d mc ms : Nat} {Po : Option Value → kx_P → Nat → Prop} (hM : kx_Mn l G sX10_speed d mc ms (.ref 64 :: [.int xa, .int xb]) P sz Po) (hp : ∀ r P2 s2, Po r P2 s2 → ∃ (v : Value) (go : Nat → Int64), r = some v ∧ cvT sX11_speed v ∧ P2 143 = kL 1 go) : kx_Mw l G sL_speed hL_speed (d + 1) mc ms [.ref 64, .int xa, .int xb, .ref 143] P sz (cPt Po) := by
  refine kx_mkw kx_tab kxLok_L [some (.ref 64), some (.int xa), some (.int xb), some (.ref 143), none] ⟨by decide +kernel, rfl, by omega⟩ rfl (fun r P' s' h => by obtain ⟨v, P2, go, -, h, -⟩ := h; exact ⟨0, h⟩) rfl rfl (fun g hB hC hN hK => ?_)
  refine hB bL_speed_0 _ _ _ _ _ _ _ kL_speed_0 ?_
  dsimp only [bL_speed_0, kx_wp, kx_step, kx_lI, kx_lL, kx_lA, kx_gl, kx_pI, kx_pL, kx_pR, kx_pA, kx_pV, kx_s1, kx_s2, kx_sl, kx_pre, kx_c2, kx_pl, kx_cmp, kx_oF, kx_eqN, kx_nil, kx_c1, kx_ft, kx_aI, kx_aL, kx_aR, kx_ln, Nat.reduceAdd, Option.toList, List.cons_append, List.nil_append]
  refine hN.1 91 _ _ _ _ _ _ _ 10 _ _ _ _ _ _ _ _ _ _ lL_91 hM ⟨by decide, rfl⟩ h64 rfl rfl (Nat.le_of_ble_eq_true rfl) (by omega) (by decide) (by omega) (by omega) dL_speed_5 ?_
  intro r P2 s2 hP2
  obtain ⟨v, go, e1, e2, e3⟩ := hp r P2 s2 hP2
  subst e1
  obtain ⟨x, e4⟩ := e2.1 rfl
  subst e4
  dsimp only [Option.toList, List.cons_append, List.nil_append]
  refine hB bL_speed_8 _ _ _ _ _ _ _ kL_speed_8 ?_
  dsimp only [bL_speed_8, kx_wp, kx_step, kx_lI, kx_lL, kx_lA, kx_gl, kx_pI, kx_pL, kx_pR, kx_pA, kx_pV, kx_s1, kx_s2, kx_sl, kx_pre, kx_c2, kx_pl, kx_cmp, kx_oF, kx_eqN, kx_nil, kx_c1, kx_ft, kx_aI, kx_aL, kx_aR, kx_ln, Nat.reduceAdd, Option.toList, List.cons_append, List.nil_append]
  simp only [e3]
  try dsimp only [kx_wp, kx_step, kx_lI, kx_lL, kx_lA, kx_gl, kx_pI, kx_pL, kx_pR, kx_pA, kx_pV, kx_s1, kx_s2, kx_sl, kx_pre, kx_c2, kx_pl, kx_cmp, kx_oF, kx_eqN, kx_nil, kx_c1, kx_ft, kx_aI, kx_aL, kx_aR, kx_ln, Nat.reduceAdd, Option.toList, List.cons_append, List.nil_append]
  refine ⟨by decide, by unfold vp_in; decide, ?_⟩
  refine hB bL_speed_16 _ _ _ _ _ _ _ kL_speed_16 ?_
  dsimp only [bL_speed_16, kx_wp, kx_step, kx_lI, kx_lL, kx_lA, kx_gl, kx_pI, kx_pL, kx_pR, kx_pA, kx_pV, kx_s1, kx_s2, kx_sl, kx_pre, kx_c2, kx_pl, kx_cmp, kx_oF, kx_eqN, kx_nil, kx_c1, kx_ft, kx_aI, kx_aL, kx_aR, kx_ln, Nat.reduceAdd, Option.toList, List.cons_append, List.nil_append]
  exact ⟨_, P2, go, hP2, rfl, e3, rfl⟩

theorem dL_speed_12 : decode cL_speed 12 = .ok (.astore 4, 2) := by decide +kernel
theorem dL_speed_14 : decode cL_speed 14 = .ok (.iconst 1, 1) := by decide +kernel
theorem dL_speed_15 : decode cL_speed 15 = .ok (.ireturn, 1) := by decide +kernel
set_option maxHeartbeats 4000000 in
theorem cw_speed_x0 (l : Launch) (G : kx_G) {P : kx_P} {sz : Nat} {f : Nat → Value} (h64 : P 64 = kO 10 f) {xa xb : Int32} {d : Nat} (hM : kx_X l G sX10_speed d (.ref 64 :: [.int xa, .int xb]) P sz "java/util/NoSuchElementException") : kx_Mw l G sL_speed hL_speed (d + 1) 1 6 [.ref 64, .int xa, .int xb, .ref 143] P sz (cPx P sz 1) := by
  refine kx_mkw kx_tab kxLok_L [some (.ref 64), some (.int xa), some (.int xb), some (.ref 143), none] ⟨by decide +kernel, rfl, by omega⟩ rfl (fun r P' s' h => ⟨_, h.1⟩) rfl rfl (fun g hB hC hN hK => ?_)
  refine hB bL_speed_0 _ _ _ _ _ _ _ kL_speed_0 ?_
  dsimp only [bL_speed_0, kx_wp, kx_step, kx_lI, kx_lL, kx_lA, kx_gl, kx_pI, kx_pL, kx_pR, kx_pA, kx_pV, kx_s1, kx_s2, kx_sl, kx_pre, kx_c2, kx_pl, kx_cmp, kx_oF, kx_eqN, kx_nil, kx_c1, kx_ft, kx_aI, kx_aL, kx_aR, kx_ln, Nat.reduceAdd, Option.toList, List.cons_append, List.nil_append]
  exact hK 91 _ _ _ _ _ 10 _ [.int 0, .ref 143] _ _ _ _ _ "java/util/NoSuchElementException" [] [] (0, 9, 12, 27) 2 1 lL_91 hM ⟨by decide, rfl⟩ h64 rfl rfl (Nat.le_of_ble_eq_true rfl) (by omega) (by decide) (by decide) (by decide) dL_speed_5 rfl (by decide) (by decide) (by decide) (kx_at_l kxC_L 1 rfl) (fun q h => by cases h) (Or.inr ⟨4, dL_speed_12, Nat.le_of_ble_eq_true rfl, rfl⟩) dL_speed_14 dL_speed_15 (fun s2 hs => ⟨rfl, rfl, hs⟩)

abbrev sL_regulated : kx_S := (yL_regulated, cL_regulated, 5, some .int)
abbrev hL_regulated : List (Nat × Nat × Nat × Nat) := [(0, 10, 13, 27)]
theorem kxW_L_regulated : ∀ w ∈ [Cond.methodLink RL 212 yL_regulated, Cond.static yL_regulated, Cond.codeWith yL_regulated cL_regulated 5 (some .int) hL_regulated], w ∈ kx_ws := kx_in_tbl [1483, 1484, 1485] (by decide +kernel) (by decide +kernel)
theorem lL_212 : kx_lS9 RL 212 sL_regulated hL_regulated 4 := ⟨kx_at_l kxW_L_regulated 0 rfl, kx_at_l kxW_L_regulated 1 rfl, kx_at_l kxW_L_regulated 2 rfl, kx_at_l kxC_L 3 rfl, by decide +kernel, by decide +kernel, by decide +kernel⟩
def bL_regulated_0 : List kx_O := [(.aload_n 3, 3, 0, 0, .null), (.iconst 0, 0, 0, 0, .int 0), (.aload_n 0, 0, 0, 0, .null), (.iload_n 1, 1, 0, 0, .null), (.iload_n 2, 2, 0, 0, .null)]
theorem kL_regulated_0 : kx_oks kxL_L false cL_regulated 0 bL_regulated_0 = true := by decide +kernel
def bL_regulated_8 : List kx_O := [(.i2l, 0, 0, 0, .null), (.lastore, 0, 0, 0, .null), (.goto 7, 17, 0, 0, .null)]
theorem kL_regulated_8 : kx_oks kxL_L false cL_regulated 8 bL_regulated_8 = true := by decide +kernel
def bL_regulated_13 : List kx_O := [(.astore 4, 4, 0, 0, .null), (.iconst 1, 0, 0, 0, .int 1), (.ireturn, 0, 0, 0, .null)]
theorem kL_regulated_13 : kx_oks kxL_L false cL_regulated 13 bL_regulated_13 = true := by decide +kernel
def bL_regulated_17 : List kx_O := [(.iconst 0, 0, 0, 0, .int 0), (.ireturn, 0, 0, 0, .null)]
theorem kL_regulated_17 : kx_oks kxL_L false cL_regulated 17 bL_regulated_17 = true := by decide +kernel
theorem dL_regulated_5 : decode cL_regulated 5 = .ok (.invokevirtual 95, 3) := by decide +kernel
set_option maxHeartbeats 4000000 in
theorem cw_regulated_t (l : Launch) (G : kx_G) {P : kx_P} {sz : Nat} {f : Nat → Value} (h64 : P 64 = kO 10 f) {xa xb : Int32} {d mc ms : Nat} {Po : Option Value → kx_P → Nat → Prop} (hM : kx_Mn l G sX10_regulated d mc ms (.ref 64 :: [.int xa, .int xb]) P sz Po) (hp : ∀ r P2 s2, Po r P2 s2 → ∃ (v : Value) (go : Nat → Int64), r = some v ∧ cvT sX11_regulated v ∧ P2 143 = kL 1 go) : kx_Mw l G sL_regulated hL_regulated (d + 1) mc ms [.ref 64, .int xa, .int xb, .ref 143] P sz (cPt Po) := by
  refine kx_mkw kx_tab kxLok_L [some (.ref 64), some (.int xa), some (.int xb), some (.ref 143), none] ⟨by decide +kernel, rfl, by omega⟩ rfl (fun r P' s' h => by obtain ⟨v, P2, go, -, h, -⟩ := h; exact ⟨0, h⟩) rfl rfl (fun g hB hC hN hK => ?_)
  refine hB bL_regulated_0 _ _ _ _ _ _ _ kL_regulated_0 ?_
  dsimp only [bL_regulated_0, kx_wp, kx_step, kx_lI, kx_lL, kx_lA, kx_gl, kx_pI, kx_pL, kx_pR, kx_pA, kx_pV, kx_s1, kx_s2, kx_sl, kx_pre, kx_c2, kx_pl, kx_cmp, kx_oF, kx_eqN, kx_nil, kx_c1, kx_ft, kx_aI, kx_aL, kx_aR, kx_ln, Nat.reduceAdd, Option.toList, List.cons_append, List.nil_append]
  refine hN.1 95 _ _ _ _ _ _ _ 10 _ _ _ _ _ _ _ _ _ _ lL_95 hM ⟨by decide, rfl⟩ h64 rfl rfl (Nat.le_of_ble_eq_true rfl) (by omega) (by decide) (by omega) (by omega) dL_regulated_5 ?_
  intro r P2 s2 hP2
  obtain ⟨v, go, e1, e2, e3⟩ := hp r P2 s2 hP2
  subst e1
  obtain ⟨x, e4⟩ := e2.2 (by decide)
  subst e4
  dsimp only [Option.toList, List.cons_append, List.nil_append]
  refine hB bL_regulated_8 _ _ _ _ _ _ _ kL_regulated_8 ?_
  dsimp only [bL_regulated_8, kx_wp, kx_step, kx_lI, kx_lL, kx_lA, kx_gl, kx_pI, kx_pL, kx_pR, kx_pA, kx_pV, kx_s1, kx_s2, kx_sl, kx_pre, kx_c2, kx_pl, kx_cmp, kx_oF, kx_eqN, kx_nil, kx_c1, kx_ft, kx_aI, kx_aL, kx_aR, kx_ln, Nat.reduceAdd, Option.toList, List.cons_append, List.nil_append]
  simp only [e3]
  try dsimp only [kx_wp, kx_step, kx_lI, kx_lL, kx_lA, kx_gl, kx_pI, kx_pL, kx_pR, kx_pA, kx_pV, kx_s1, kx_s2, kx_sl, kx_pre, kx_c2, kx_pl, kx_cmp, kx_oF, kx_eqN, kx_nil, kx_c1, kx_ft, kx_aI, kx_aL, kx_aR, kx_ln, Nat.reduceAdd, Option.toList, List.cons_append, List.nil_append]
  refine ⟨by decide, by unfold vp_in; decide, ?_⟩
  refine hB bL_regulated_17 _ _ _ _ _ _ _ kL_regulated_17 ?_
  dsimp only [bL_regulated_17, kx_wp, kx_step, kx_lI, kx_lL, kx_lA, kx_gl, kx_pI, kx_pL, kx_pR, kx_pA, kx_pV, kx_s1, kx_s2, kx_sl, kx_pre, kx_c2, kx_pl, kx_cmp, kx_oF, kx_eqN, kx_nil, kx_c1, kx_ft, kx_aI, kx_aL, kx_aR, kx_ln, Nat.reduceAdd, Option.toList, List.cons_append, List.nil_append]
  exact ⟨_, P2, go, hP2, rfl, e3, rfl⟩

theorem dL_regulated_13 : decode cL_regulated 13 = .ok (.astore 4, 2) := by decide +kernel
theorem dL_regulated_15 : decode cL_regulated 15 = .ok (.iconst 1, 1) := by decide +kernel
theorem dL_regulated_16 : decode cL_regulated 16 = .ok (.ireturn, 1) := by decide +kernel
set_option maxHeartbeats 4000000 in
theorem cw_regulated_x0 (l : Launch) (G : kx_G) {P : kx_P} {sz : Nat} {f : Nat → Value} (h64 : P 64 = kO 10 f) {xa xb : Int32} {d : Nat} (hM : kx_X l G sX10_regulated d (.ref 64 :: [.int xa, .int xb]) P sz "java/util/NoSuchElementException") : kx_Mw l G sL_regulated hL_regulated (d + 1) 1 6 [.ref 64, .int xa, .int xb, .ref 143] P sz (cPx P sz 1) := by
  refine kx_mkw kx_tab kxLok_L [some (.ref 64), some (.int xa), some (.int xb), some (.ref 143), none] ⟨by decide +kernel, rfl, by omega⟩ rfl (fun r P' s' h => ⟨_, h.1⟩) rfl rfl (fun g hB hC hN hK => ?_)
  refine hB bL_regulated_0 _ _ _ _ _ _ _ kL_regulated_0 ?_
  dsimp only [bL_regulated_0, kx_wp, kx_step, kx_lI, kx_lL, kx_lA, kx_gl, kx_pI, kx_pL, kx_pR, kx_pA, kx_pV, kx_s1, kx_s2, kx_sl, kx_pre, kx_c2, kx_pl, kx_cmp, kx_oF, kx_eqN, kx_nil, kx_c1, kx_ft, kx_aI, kx_aL, kx_aR, kx_ln, Nat.reduceAdd, Option.toList, List.cons_append, List.nil_append]
  exact hK 95 _ _ _ _ _ 10 _ [.int 0, .ref 143] _ _ _ _ _ "java/util/NoSuchElementException" [] [] (0, 10, 13, 27) 2 1 lL_95 hM ⟨by decide, rfl⟩ h64 rfl rfl (Nat.le_of_ble_eq_true rfl) (by omega) (by decide) (by decide) (by decide) dL_regulated_5 rfl (by decide) (by decide) (by decide) (kx_at_l kxC_L 1 rfl) (fun q h => by cases h) (Or.inr ⟨4, dL_regulated_13, Nat.le_of_ble_eq_true rfl, rfl⟩) dL_regulated_15 dL_regulated_16 (fun s2 hs => ⟨rfl, rfl, hs⟩)

abbrev sL_beyond : kx_S := (yL_beyond, cL_beyond, 6, some .int)
abbrev hL_beyond : List (Nat × Nat × Nat × Nat) := [(0, 12, 15, 27), (0, 12, 19, 13)]
theorem kxW_L_beyond : ∀ w ∈ [Cond.methodLink RL 215 yL_beyond, Cond.static yL_beyond, Cond.codeWith yL_beyond cL_beyond 6 (some .int) hL_beyond], w ∈ kx_ws := kx_in_tbl [1498, 1499, 1500] (by decide +kernel) (by decide +kernel)
theorem lL_215 : kx_lS9 RL 215 sL_beyond hL_beyond 5 := ⟨kx_at_l kxW_L_beyond 0 rfl, kx_at_l kxW_L_beyond 1 rfl, kx_at_l kxW_L_beyond 2 rfl, kx_at_l kxC_L 3 rfl, by decide +kernel, by decide +kernel, by decide +kernel⟩
def bL_beyond_0 : List kx_O := [(.aload 4, 4, 0, 0, .null), (.iconst 0, 0, 0, 0, .int 0), (.aload_n 0, 0, 0, 0, .null), (.iload_n 1, 1, 0, 0, .null), (.iload_n 2, 2, 0, 0, .null), (.iload_n 3, 3, 0, 0, .null)]
theorem kL_beyond_0 : kx_oks kxL_L false cL_beyond 0 bL_beyond_0 = true := by decide +kernel
def bL_beyond_10 : List kx_O := [(.i2l, 0, 0, 0, .null), (.lastore, 0, 0, 0, .null), (.goto 11, 23, 0, 0, .null)]
theorem kL_beyond_10 : kx_oks kxL_L false cL_beyond 10 bL_beyond_10 = true := by decide +kernel
def bL_beyond_15 : List kx_O := [(.astore 5, 5, 0, 0, .null), (.iconst 1, 0, 0, 0, .int 1), (.ireturn, 0, 0, 0, .null)]
theorem kL_beyond_15 : kx_oks kxL_L false cL_beyond 15 bL_beyond_15 = true := by decide +kernel
def bL_beyond_19 : List kx_O := [(.astore 5, 5, 0, 0, .null), (.iconst 2, 0, 0, 0, .int 2), (.ireturn, 0, 0, 0, .null)]
theorem kL_beyond_19 : kx_oks kxL_L false cL_beyond 19 bL_beyond_19 = true := by decide +kernel
def bL_beyond_23 : List kx_O := [(.iconst 0, 0, 0, 0, .int 0), (.ireturn, 0, 0, 0, .null)]
theorem kL_beyond_23 : kx_oks kxL_L false cL_beyond 23 bL_beyond_23 = true := by decide +kernel
theorem dL_beyond_7 : decode cL_beyond 7 = .ok (.invokevirtual 98, 3) := by decide +kernel
set_option maxHeartbeats 4000000 in
theorem cw_beyond_t (l : Launch) (G : kx_G) {P : kx_P} {sz : Nat} {f : Nat → Value} (h64 : P 64 = kO 10 f) {xa xb xc : Int32} {d mc ms : Nat} {Po : Option Value → kx_P → Nat → Prop} (hM : kx_Mn l G sX10_beyond d mc ms (.ref 64 :: [.int xa, .int xb, .int xc]) P sz Po) (hp : ∀ r P2 s2, Po r P2 s2 → ∃ (v : Value) (go : Nat → Int64), r = some v ∧ cvT sX11_beyond v ∧ P2 143 = kL 1 go) : kx_Mw l G sL_beyond hL_beyond (d + 1) mc ms [.ref 64, .int xa, .int xb, .int xc, .ref 143] P sz (cPt Po) := by
  refine kx_mkw kx_tab kxLok_L [some (.ref 64), some (.int xa), some (.int xb), some (.int xc), some (.ref 143), none] ⟨by decide +kernel, rfl, by omega⟩ rfl (fun r P' s' h => by obtain ⟨v, P2, go, -, h, -⟩ := h; exact ⟨0, h⟩) rfl rfl (fun g hB hC hN hK => ?_)
  refine hB bL_beyond_0 _ _ _ _ _ _ _ kL_beyond_0 ?_
  dsimp only [bL_beyond_0, kx_wp, kx_step, kx_lI, kx_lL, kx_lA, kx_gl, kx_pI, kx_pL, kx_pR, kx_pA, kx_pV, kx_s1, kx_s2, kx_sl, kx_pre, kx_c2, kx_pl, kx_cmp, kx_oF, kx_eqN, kx_nil, kx_c1, kx_ft, kx_aI, kx_aL, kx_aR, kx_ln, Nat.reduceAdd, Option.toList, List.cons_append, List.nil_append]
  refine hN.1 98 _ _ _ _ _ _ _ 10 _ _ _ _ _ _ _ _ _ _ lL_98 hM ⟨by decide, rfl⟩ h64 rfl rfl (Nat.le_of_ble_eq_true rfl) (by omega) (by decide) (by omega) (by omega) dL_beyond_7 ?_
  intro r P2 s2 hP2
  obtain ⟨v, go, e1, e2, e3⟩ := hp r P2 s2 hP2
  subst e1
  obtain ⟨x, e4⟩ := e2.2 (by decide)
  subst e4
  dsimp only [Option.toList, List.cons_append, List.nil_append]
  refine hB bL_beyond_10 _ _ _ _ _ _ _ kL_beyond_10 ?_
  dsimp only [bL_beyond_10, kx_wp, kx_step, kx_lI, kx_lL, kx_lA, kx_gl, kx_pI, kx_pL, kx_pR, kx_pA, kx_pV, kx_s1, kx_s2, kx_sl, kx_pre, kx_c2, kx_pl, kx_cmp, kx_oF, kx_eqN, kx_nil, kx_c1, kx_ft, kx_aI, kx_aL, kx_aR, kx_ln, Nat.reduceAdd, Option.toList, List.cons_append, List.nil_append]
  simp only [e3]
  try dsimp only [kx_wp, kx_step, kx_lI, kx_lL, kx_lA, kx_gl, kx_pI, kx_pL, kx_pR, kx_pA, kx_pV, kx_s1, kx_s2, kx_sl, kx_pre, kx_c2, kx_pl, kx_cmp, kx_oF, kx_eqN, kx_nil, kx_c1, kx_ft, kx_aI, kx_aL, kx_aR, kx_ln, Nat.reduceAdd, Option.toList, List.cons_append, List.nil_append]
  refine ⟨by decide, by unfold vp_in; decide, ?_⟩
  refine hB bL_beyond_23 _ _ _ _ _ _ _ kL_beyond_23 ?_
  dsimp only [bL_beyond_23, kx_wp, kx_step, kx_lI, kx_lL, kx_lA, kx_gl, kx_pI, kx_pL, kx_pR, kx_pA, kx_pV, kx_s1, kx_s2, kx_sl, kx_pre, kx_c2, kx_pl, kx_cmp, kx_oF, kx_eqN, kx_nil, kx_c1, kx_ft, kx_aI, kx_aL, kx_aR, kx_ln, Nat.reduceAdd, Option.toList, List.cons_append, List.nil_append]
  exact ⟨_, P2, go, hP2, rfl, e3, rfl⟩

theorem dL_beyond_15 : decode cL_beyond 15 = .ok (.astore 5, 2) := by decide +kernel
theorem dL_beyond_17 : decode cL_beyond 17 = .ok (.iconst 1, 1) := by decide +kernel
theorem dL_beyond_18 : decode cL_beyond 18 = .ok (.ireturn, 1) := by decide +kernel
set_option maxHeartbeats 4000000 in
theorem cw_beyond_x0 (l : Launch) (G : kx_G) {P : kx_P} {sz : Nat} {f : Nat → Value} (h64 : P 64 = kO 10 f) {xa xb xc : Int32} {d : Nat} (hM : kx_X l G sX10_beyond d (.ref 64 :: [.int xa, .int xb, .int xc]) P sz "java/util/NoSuchElementException") : kx_Mw l G sL_beyond hL_beyond (d + 1) 1 6 [.ref 64, .int xa, .int xb, .int xc, .ref 143] P sz (cPx P sz 1) := by
  refine kx_mkw kx_tab kxLok_L [some (.ref 64), some (.int xa), some (.int xb), some (.int xc), some (.ref 143), none] ⟨by decide +kernel, rfl, by omega⟩ rfl (fun r P' s' h => ⟨_, h.1⟩) rfl rfl (fun g hB hC hN hK => ?_)
  refine hB bL_beyond_0 _ _ _ _ _ _ _ kL_beyond_0 ?_
  dsimp only [bL_beyond_0, kx_wp, kx_step, kx_lI, kx_lL, kx_lA, kx_gl, kx_pI, kx_pL, kx_pR, kx_pA, kx_pV, kx_s1, kx_s2, kx_sl, kx_pre, kx_c2, kx_pl, kx_cmp, kx_oF, kx_eqN, kx_nil, kx_c1, kx_ft, kx_aI, kx_aL, kx_aR, kx_ln, Nat.reduceAdd, Option.toList, List.cons_append, List.nil_append]
  exact hK 98 _ _ _ _ _ 10 _ [.int 0, .ref 143] _ _ _ _ _ "java/util/NoSuchElementException" [] [(0, 12, 19, 13)] (0, 12, 15, 27) 2 1 lL_98 hM ⟨by decide, rfl⟩ h64 rfl rfl (Nat.le_of_ble_eq_true rfl) (by omega) (by decide) (by decide) (by decide) dL_beyond_7 rfl (by decide) (by decide) (by decide) (kx_at_l kxC_L 1 rfl) (fun q h => by cases h) (Or.inr ⟨5, dL_beyond_15, Nat.le_of_ble_eq_true rfl, rfl⟩) dL_beyond_17 dL_beyond_18 (fun s2 hs => ⟨rfl, rfl, hs⟩)

theorem dL_beyond_19 : decode cL_beyond 19 = .ok (.astore 5, 2) := by decide +kernel
theorem dL_beyond_21 : decode cL_beyond 21 = .ok (.iconst 2, 1) := by decide +kernel
theorem dL_beyond_22 : decode cL_beyond 22 = .ok (.ireturn, 1) := by decide +kernel
set_option maxHeartbeats 4000000 in
theorem cw_beyond_x1 (l : Launch) (G : kx_G) {P : kx_P} {sz : Nat} {f : Nat → Value} (h64 : P 64 = kO 10 f) {xa xb xc : Int32} {d : Nat} (hM : kx_X l G sX10_beyond d (.ref 64 :: [.int xa, .int xb, .int xc]) P sz "java/lang/IllegalArgumentException") : kx_Mw l G sL_beyond hL_beyond (d + 1) 1 6 [.ref 64, .int xa, .int xb, .int xc, .ref 143] P sz (cPx P sz 2) := by
  refine kx_mkw kx_tab kxLok_L [some (.ref 64), some (.int xa), some (.int xb), some (.int xc), some (.ref 143), none] ⟨by decide +kernel, rfl, by omega⟩ rfl (fun r P' s' h => ⟨_, h.1⟩) rfl rfl (fun g hB hC hN hK => ?_)
  refine hB bL_beyond_0 _ _ _ _ _ _ _ kL_beyond_0 ?_
  dsimp only [bL_beyond_0, kx_wp, kx_step, kx_lI, kx_lL, kx_lA, kx_gl, kx_pI, kx_pL, kx_pR, kx_pA, kx_pV, kx_s1, kx_s2, kx_sl, kx_pre, kx_c2, kx_pl, kx_cmp, kx_oF, kx_eqN, kx_nil, kx_c1, kx_ft, kx_aI, kx_aL, kx_aR, kx_ln, Nat.reduceAdd, Option.toList, List.cons_append, List.nil_append]
  exact hK 98 _ _ _ _ _ 10 _ [.int 0, .ref 143] _ _ _ _ _ "java/lang/IllegalArgumentException" [(0, 12, 15, 27)] [] (0, 12, 19, 13) 2 2 lL_98 hM ⟨by decide, rfl⟩ h64 rfl rfl (Nat.le_of_ble_eq_true rfl) (by omega) (by decide) (by decide) (by decide) dL_beyond_7 rfl (by decide) (by decide) (by decide) (kx_at_l kxC_L 0 rfl) (fun q h => by
    simp only [List.mem_cons, List.not_mem_nil, or_false] at h
    rcases h with rfl
    · exact ⟨by decide, _, kx_at_l kxC_L 1 rfl, by decide⟩) (Or.inr ⟨5, dL_beyond_19, Nat.le_of_ble_eq_true rfl, rfl⟩) dL_beyond_21 dL_beyond_22 (fun s2 hs => ⟨rfl, rfl, hs⟩)

abbrev sL_law : kx_S := (yL_law, cL_law, 5, some .int)
abbrev hL_law : List (Nat × Nat × Nat × Nat) := [(0, 10, 13, 27), (0, 10, 17, 13)]
theorem kxW_L_law : ∀ w ∈ [Cond.methodLink RL 218 yL_law, Cond.static yL_law, Cond.codeWith yL_law cL_law 5 (some .int) hL_law], w ∈ kx_ws := kx_in_tbl [1515, 1516, 1517] (by decide +kernel) (by decide +kernel)
theorem lL_218 : kx_lS9 RL 218 sL_law hL_law 4 := ⟨kx_at_l kxW_L_law 0 rfl, kx_at_l kxW_L_law 1 rfl, kx_at_l kxW_L_law 2 rfl, kx_at_l kxC_L 3 rfl, by decide +kernel, by decide +kernel, by decide +kernel⟩
def bL_law_0 : List kx_O := [(.aload_n 3, 3, 0, 0, .null), (.iconst 0, 0, 0, 0, .int 0), (.aload_n 0, 0, 0, 0, .null), (.iload_n 1, 1, 0, 0, .null), (.iload_n 2, 2, 0, 0, .null)]
theorem kL_law_0 : kx_oks kxL_L false cL_law 0 bL_law_0 = true := by decide +kernel
def bL_law_8 : List kx_O := [(.i2l, 0, 0, 0, .null), (.lastore, 0, 0, 0, .null), (.goto 11, 21, 0, 0, .null)]
theorem kL_law_8 : kx_oks kxL_L false cL_law 8 bL_law_8 = true := by decide +kernel
def bL_law_13 : List kx_O := [(.astore 4, 4, 0, 0, .null), (.iconst 1, 0, 0, 0, .int 1), (.ireturn, 0, 0, 0, .null)]
theorem kL_law_13 : kx_oks kxL_L false cL_law 13 bL_law_13 = true := by decide +kernel
def bL_law_17 : List kx_O := [(.astore 4, 4, 0, 0, .null), (.iconst 2, 0, 0, 0, .int 2), (.ireturn, 0, 0, 0, .null)]
theorem kL_law_17 : kx_oks kxL_L false cL_law 17 bL_law_17 = true := by decide +kernel
def bL_law_21 : List kx_O := [(.iconst 0, 0, 0, 0, .int 0), (.ireturn, 0, 0, 0, .null)]
theorem kL_law_21 : kx_oks kxL_L false cL_law 21 bL_law_21 = true := by decide +kernel
theorem dL_law_5 : decode cL_law 5 = .ok (.invokevirtual 101, 3) := by decide +kernel
set_option maxHeartbeats 4000000 in
theorem cw_law_t (l : Launch) (G : kx_G) {P : kx_P} {sz : Nat} {f : Nat → Value} (h64 : P 64 = kO 10 f) {xa xb : Int32} {d mc ms : Nat} {Po : Option Value → kx_P → Nat → Prop} (hM : kx_Mn l G sX10_law d mc ms (.ref 64 :: [.int xa, .int xb]) P sz Po) (hp : ∀ r P2 s2, Po r P2 s2 → ∃ (v : Value) (go : Nat → Int64), r = some v ∧ cvT sX11_law v ∧ P2 143 = kL 1 go) : kx_Mw l G sL_law hL_law (d + 1) mc ms [.ref 64, .int xa, .int xb, .ref 143] P sz (cPt Po) := by
  refine kx_mkw kx_tab kxLok_L [some (.ref 64), some (.int xa), some (.int xb), some (.ref 143), none] ⟨by decide +kernel, rfl, by omega⟩ rfl (fun r P' s' h => by obtain ⟨v, P2, go, -, h, -⟩ := h; exact ⟨0, h⟩) rfl rfl (fun g hB hC hN hK => ?_)
  refine hB bL_law_0 _ _ _ _ _ _ _ kL_law_0 ?_
  dsimp only [bL_law_0, kx_wp, kx_step, kx_lI, kx_lL, kx_lA, kx_gl, kx_pI, kx_pL, kx_pR, kx_pA, kx_pV, kx_s1, kx_s2, kx_sl, kx_pre, kx_c2, kx_pl, kx_cmp, kx_oF, kx_eqN, kx_nil, kx_c1, kx_ft, kx_aI, kx_aL, kx_aR, kx_ln, Nat.reduceAdd, Option.toList, List.cons_append, List.nil_append]
  refine hN.1 101 _ _ _ _ _ _ _ 10 _ _ _ _ _ _ _ _ _ _ lL_101 hM ⟨by decide, rfl⟩ h64 rfl rfl (Nat.le_of_ble_eq_true rfl) (by omega) (by decide) (by omega) (by omega) dL_law_5 ?_
  intro r P2 s2 hP2
  obtain ⟨v, go, e1, e2, e3⟩ := hp r P2 s2 hP2
  subst e1
  obtain ⟨x, e4⟩ := e2.2 (by decide)
  subst e4
  dsimp only [Option.toList, List.cons_append, List.nil_append]
  refine hB bL_law_8 _ _ _ _ _ _ _ kL_law_8 ?_
  dsimp only [bL_law_8, kx_wp, kx_step, kx_lI, kx_lL, kx_lA, kx_gl, kx_pI, kx_pL, kx_pR, kx_pA, kx_pV, kx_s1, kx_s2, kx_sl, kx_pre, kx_c2, kx_pl, kx_cmp, kx_oF, kx_eqN, kx_nil, kx_c1, kx_ft, kx_aI, kx_aL, kx_aR, kx_ln, Nat.reduceAdd, Option.toList, List.cons_append, List.nil_append]
  simp only [e3]
  try dsimp only [kx_wp, kx_step, kx_lI, kx_lL, kx_lA, kx_gl, kx_pI, kx_pL, kx_pR, kx_pA, kx_pV, kx_s1, kx_s2, kx_sl, kx_pre, kx_c2, kx_pl, kx_cmp, kx_oF, kx_eqN, kx_nil, kx_c1, kx_ft, kx_aI, kx_aL, kx_aR, kx_ln, Nat.reduceAdd, Option.toList, List.cons_append, List.nil_append]
  refine ⟨by decide, by unfold vp_in; decide, ?_⟩
  refine hB bL_law_21 _ _ _ _ _ _ _ kL_law_21 ?_
  dsimp only [bL_law_21, kx_wp, kx_step, kx_lI, kx_lL, kx_lA, kx_gl, kx_pI, kx_pL, kx_pR, kx_pA, kx_pV, kx_s1, kx_s2, kx_sl, kx_pre, kx_c2, kx_pl, kx_cmp, kx_oF, kx_eqN, kx_nil, kx_c1, kx_ft, kx_aI, kx_aL, kx_aR, kx_ln, Nat.reduceAdd, Option.toList, List.cons_append, List.nil_append]
  exact ⟨_, P2, go, hP2, rfl, e3, rfl⟩

theorem dL_law_13 : decode cL_law 13 = .ok (.astore 4, 2) := by decide +kernel
theorem dL_law_15 : decode cL_law 15 = .ok (.iconst 1, 1) := by decide +kernel
theorem dL_law_16 : decode cL_law 16 = .ok (.ireturn, 1) := by decide +kernel
set_option maxHeartbeats 4000000 in
theorem cw_law_x0 (l : Launch) (G : kx_G) {P : kx_P} {sz : Nat} {f : Nat → Value} (h64 : P 64 = kO 10 f) {xa xb : Int32} {d : Nat} (hM : kx_X l G sX10_law d (.ref 64 :: [.int xa, .int xb]) P sz "java/util/NoSuchElementException") : kx_Mw l G sL_law hL_law (d + 1) 1 6 [.ref 64, .int xa, .int xb, .ref 143] P sz (cPx P sz 1) := by
  refine kx_mkw kx_tab kxLok_L [some (.ref 64), some (.int xa), some (.int xb), some (.ref 143), none] ⟨by decide +kernel, rfl, by omega⟩ rfl (fun r P' s' h => ⟨_, h.1⟩) rfl rfl (fun g hB hC hN hK => ?_)
  refine hB bL_law_0 _ _ _ _ _ _ _ kL_law_0 ?_
  dsimp only [bL_law_0, kx_wp, kx_step, kx_lI, kx_lL, kx_lA, kx_gl, kx_pI, kx_pL, kx_pR, kx_pA, kx_pV, kx_s1, kx_s2, kx_sl, kx_pre, kx_c2, kx_pl, kx_cmp, kx_oF, kx_eqN, kx_nil, kx_c1, kx_ft, kx_aI, kx_aL, kx_aR, kx_ln, Nat.reduceAdd, Option.toList, List.cons_append, List.nil_append]
  exact hK 101 _ _ _ _ _ 10 _ [.int 0, .ref 143] _ _ _ _ _ "java/util/NoSuchElementException" [] [(0, 10, 17, 13)] (0, 10, 13, 27) 2 1 lL_101 hM ⟨by decide, rfl⟩ h64 rfl rfl (Nat.le_of_ble_eq_true rfl) (by omega) (by decide) (by decide) (by decide) dL_law_5 rfl (by decide) (by decide) (by decide) (kx_at_l kxC_L 1 rfl) (fun q h => by cases h) (Or.inr ⟨4, dL_law_13, Nat.le_of_ble_eq_true rfl, rfl⟩) dL_law_15 dL_law_16 (fun s2 hs => ⟨rfl, rfl, hs⟩)

theorem dL_law_17 : decode cL_law 17 = .ok (.astore 4, 2) := by decide +kernel
theorem dL_law_19 : decode cL_law 19 = .ok (.iconst 2, 1) := by decide +kernel
theorem dL_law_20 : decode cL_law 20 = .ok (.ireturn, 1) := by decide +kernel
set_option maxHeartbeats 4000000 in
theorem cw_law_x1 (l : Launch) (G : kx_G) {P : kx_P} {sz : Nat} {f : Nat → Value} (h64 : P 64 = kO 10 f) {xa xb : Int32} {d : Nat} (hM : kx_X l G sX10_law d (.ref 64 :: [.int xa, .int xb]) P sz "java/lang/IllegalArgumentException") : kx_Mw l G sL_law hL_law (d + 1) 1 6 [.ref 64, .int xa, .int xb, .ref 143] P sz (cPx P sz 2) := by
  refine kx_mkw kx_tab kxLok_L [some (.ref 64), some (.int xa), some (.int xb), some (.ref 143), none] ⟨by decide +kernel, rfl, by omega⟩ rfl (fun r P' s' h => ⟨_, h.1⟩) rfl rfl (fun g hB hC hN hK => ?_)
  refine hB bL_law_0 _ _ _ _ _ _ _ kL_law_0 ?_
  dsimp only [bL_law_0, kx_wp, kx_step, kx_lI, kx_lL, kx_lA, kx_gl, kx_pI, kx_pL, kx_pR, kx_pA, kx_pV, kx_s1, kx_s2, kx_sl, kx_pre, kx_c2, kx_pl, kx_cmp, kx_oF, kx_eqN, kx_nil, kx_c1, kx_ft, kx_aI, kx_aL, kx_aR, kx_ln, Nat.reduceAdd, Option.toList, List.cons_append, List.nil_append]
  exact hK 101 _ _ _ _ _ 10 _ [.int 0, .ref 143] _ _ _ _ _ "java/lang/IllegalArgumentException" [(0, 10, 13, 27)] [] (0, 10, 17, 13) 2 2 lL_101 hM ⟨by decide, rfl⟩ h64 rfl rfl (Nat.le_of_ble_eq_true rfl) (by omega) (by decide) (by decide) (by decide) dL_law_5 rfl (by decide) (by decide) (by decide) (kx_at_l kxC_L 0 rfl) (fun q h => by
    simp only [List.mem_cons, List.not_mem_nil, or_false] at h
    rcases h with rfl
    · exact ⟨by decide, _, kx_at_l kxC_L 1 rfl, by decide⟩) (Or.inr ⟨4, dL_law_17, Nat.le_of_ble_eq_true rfl, rfl⟩) dL_law_19 dL_law_20 (fun s2 hs => ⟨rfl, rfl, hs⟩)

abbrev sL_kept : kx_S := (yL_kept, cL_kept, 5, some .int)
abbrev hL_kept : List (Nat × Nat × Nat × Nat) := [(0, 10, 13, 27)]
theorem kxW_L_kept : ∀ w ∈ [Cond.methodLink RL 225 yL_kept, Cond.static yL_kept, Cond.codeWith yL_kept cL_kept 5 (some .int) hL_kept], w ∈ kx_ws := kx_in_tbl [1526, 1527, 1528] (by decide +kernel) (by decide +kernel)
theorem lL_225 : kx_lS9 RL 225 sL_kept hL_kept 4 := ⟨kx_at_l kxW_L_kept 0 rfl, kx_at_l kxW_L_kept 1 rfl, kx_at_l kxW_L_kept 2 rfl, kx_at_l kxC_L 3 rfl, by decide +kernel, by decide +kernel, by decide +kernel⟩
def bL_kept_0 : List kx_O := [(.aload_n 3, 3, 0, 0, .null), (.iconst 0, 0, 0, 0, .int 0), (.aload_n 0, 0, 0, 0, .null), (.iload_n 1, 1, 0, 0, .null), (.iload_n 2, 2, 0, 0, .null)]
theorem kL_kept_0 : kx_oks kxL_L false cL_kept 0 bL_kept_0 = true := by decide +kernel
def bL_kept_8 : List kx_O := [(.i2l, 0, 0, 0, .null), (.lastore, 0, 0, 0, .null), (.goto 7, 17, 0, 0, .null)]
theorem kL_kept_8 : kx_oks kxL_L false cL_kept 8 bL_kept_8 = true := by decide +kernel
def bL_kept_13 : List kx_O := [(.astore 4, 4, 0, 0, .null), (.iconst 1, 0, 0, 0, .int 1), (.ireturn, 0, 0, 0, .null)]
theorem kL_kept_13 : kx_oks kxL_L false cL_kept 13 bL_kept_13 = true := by decide +kernel
def bL_kept_17 : List kx_O := [(.iconst 0, 0, 0, 0, .int 0), (.ireturn, 0, 0, 0, .null)]
theorem kL_kept_17 : kx_oks kxL_L false cL_kept 17 bL_kept_17 = true := by decide +kernel
theorem dL_kept_5 : decode cL_kept 5 = .ok (.invokevirtual 104, 3) := by decide +kernel
set_option maxHeartbeats 4000000 in
theorem cw_kept_t (l : Launch) (G : kx_G) {P : kx_P} {sz : Nat} {f : Nat → Value} (h64 : P 64 = kO 10 f) {xa xb : Int32} {d mc ms : Nat} {Po : Option Value → kx_P → Nat → Prop} (hM : kx_Mn l G sX10_kept d mc ms (.ref 64 :: [.int xa, .int xb]) P sz Po) (hp : ∀ r P2 s2, Po r P2 s2 → ∃ (v : Value) (go : Nat → Int64), r = some v ∧ cvT sX11_kept v ∧ P2 143 = kL 1 go) : kx_Mw l G sL_kept hL_kept (d + 1) mc ms [.ref 64, .int xa, .int xb, .ref 143] P sz (cPt Po) := by
  refine kx_mkw kx_tab kxLok_L [some (.ref 64), some (.int xa), some (.int xb), some (.ref 143), none] ⟨by decide +kernel, rfl, by omega⟩ rfl (fun r P' s' h => by obtain ⟨v, P2, go, -, h, -⟩ := h; exact ⟨0, h⟩) rfl rfl (fun g hB hC hN hK => ?_)
  refine hB bL_kept_0 _ _ _ _ _ _ _ kL_kept_0 ?_
  dsimp only [bL_kept_0, kx_wp, kx_step, kx_lI, kx_lL, kx_lA, kx_gl, kx_pI, kx_pL, kx_pR, kx_pA, kx_pV, kx_s1, kx_s2, kx_sl, kx_pre, kx_c2, kx_pl, kx_cmp, kx_oF, kx_eqN, kx_nil, kx_c1, kx_ft, kx_aI, kx_aL, kx_aR, kx_ln, Nat.reduceAdd, Option.toList, List.cons_append, List.nil_append]
  refine hN.1 104 _ _ _ _ _ _ _ 10 _ _ _ _ _ _ _ _ _ _ lL_104 hM ⟨by decide, rfl⟩ h64 rfl rfl (Nat.le_of_ble_eq_true rfl) (by omega) (by decide) (by omega) (by omega) dL_kept_5 ?_
  intro r P2 s2 hP2
  obtain ⟨v, go, e1, e2, e3⟩ := hp r P2 s2 hP2
  subst e1
  obtain ⟨x, e4⟩ := e2.2 (by decide)
  subst e4
  dsimp only [Option.toList, List.cons_append, List.nil_append]
  refine hB bL_kept_8 _ _ _ _ _ _ _ kL_kept_8 ?_
  dsimp only [bL_kept_8, kx_wp, kx_step, kx_lI, kx_lL, kx_lA, kx_gl, kx_pI, kx_pL, kx_pR, kx_pA, kx_pV, kx_s1, kx_s2, kx_sl, kx_pre, kx_c2, kx_pl, kx_cmp, kx_oF, kx_eqN, kx_nil, kx_c1, kx_ft, kx_aI, kx_aL, kx_aR, kx_ln, Nat.reduceAdd, Option.toList, List.cons_append, List.nil_append]
  simp only [e3]
  try dsimp only [kx_wp, kx_step, kx_lI, kx_lL, kx_lA, kx_gl, kx_pI, kx_pL, kx_pR, kx_pA, kx_pV, kx_s1, kx_s2, kx_sl, kx_pre, kx_c2, kx_pl, kx_cmp, kx_oF, kx_eqN, kx_nil, kx_c1, kx_ft, kx_aI, kx_aL, kx_aR, kx_ln, Nat.reduceAdd, Option.toList, List.cons_append, List.nil_append]
  refine ⟨by decide, by unfold vp_in; decide, ?_⟩
  refine hB bL_kept_17 _ _ _ _ _ _ _ kL_kept_17 ?_
  dsimp only [bL_kept_17, kx_wp, kx_step, kx_lI, kx_lL, kx_lA, kx_gl, kx_pI, kx_pL, kx_pR, kx_pA, kx_pV, kx_s1, kx_s2, kx_sl, kx_pre, kx_c2, kx_pl, kx_cmp, kx_oF, kx_eqN, kx_nil, kx_c1, kx_ft, kx_aI, kx_aL, kx_aR, kx_ln, Nat.reduceAdd, Option.toList, List.cons_append, List.nil_append]
  exact ⟨_, P2, go, hP2, rfl, e3, rfl⟩

theorem dL_kept_13 : decode cL_kept 13 = .ok (.astore 4, 2) := by decide +kernel
theorem dL_kept_15 : decode cL_kept 15 = .ok (.iconst 1, 1) := by decide +kernel
theorem dL_kept_16 : decode cL_kept 16 = .ok (.ireturn, 1) := by decide +kernel
set_option maxHeartbeats 4000000 in
theorem cw_kept_x0 (l : Launch) (G : kx_G) {P : kx_P} {sz : Nat} {f : Nat → Value} (h64 : P 64 = kO 10 f) {xa xb : Int32} {d : Nat} (hM : kx_X l G sX10_kept d (.ref 64 :: [.int xa, .int xb]) P sz "java/util/NoSuchElementException") : kx_Mw l G sL_kept hL_kept (d + 1) 1 6 [.ref 64, .int xa, .int xb, .ref 143] P sz (cPx P sz 1) := by
  refine kx_mkw kx_tab kxLok_L [some (.ref 64), some (.int xa), some (.int xb), some (.ref 143), none] ⟨by decide +kernel, rfl, by omega⟩ rfl (fun r P' s' h => ⟨_, h.1⟩) rfl rfl (fun g hB hC hN hK => ?_)
  refine hB bL_kept_0 _ _ _ _ _ _ _ kL_kept_0 ?_
  dsimp only [bL_kept_0, kx_wp, kx_step, kx_lI, kx_lL, kx_lA, kx_gl, kx_pI, kx_pL, kx_pR, kx_pA, kx_pV, kx_s1, kx_s2, kx_sl, kx_pre, kx_c2, kx_pl, kx_cmp, kx_oF, kx_eqN, kx_nil, kx_c1, kx_ft, kx_aI, kx_aL, kx_aR, kx_ln, Nat.reduceAdd, Option.toList, List.cons_append, List.nil_append]
  exact hK 104 _ _ _ _ _ 10 _ [.int 0, .ref 143] _ _ _ _ _ "java/util/NoSuchElementException" [] [] (0, 10, 13, 27) 2 1 lL_104 hM ⟨by decide, rfl⟩ h64 rfl rfl (Nat.le_of_ble_eq_true rfl) (by omega) (by decide) (by decide) (by decide) dL_kept_5 rfl (by decide) (by decide) (by decide) (kx_at_l kxC_L 1 rfl) (fun q h => by cases h) (Or.inr ⟨4, dL_kept_13, Nat.le_of_ble_eq_true rfl, rfl⟩) dL_kept_15 dL_kept_16 (fun s2 hs => ⟨rfl, rfl, hs⟩)

abbrev sL_foretold : kx_S := (yL_foretold, cL_foretold, 6, some .int)
abbrev hL_foretold : List (Nat × Nat × Nat × Nat) := [(0, 12, 15, 27), (0, 12, 19, 13), (0, 12, 23, 22)]
theorem kxW_L_foretold : ∀ w ∈ [Cond.methodLink RL 228 yL_foretold, Cond.static yL_foretold, Cond.codeWith yL_foretold cL_foretold 6 (some .int) hL_foretold], w ∈ kx_ws := kx_in_tbl [1537, 1538, 1539] (by decide +kernel) (by decide +kernel)
theorem lL_228 : kx_lS9 RL 228 sL_foretold hL_foretold 5 := ⟨kx_at_l kxW_L_foretold 0 rfl, kx_at_l kxW_L_foretold 1 rfl, kx_at_l kxW_L_foretold 2 rfl, kx_at_l kxC_L 3 rfl, by decide +kernel, by decide +kernel, by decide +kernel⟩
def bL_foretold_0 : List kx_O := [(.aload 4, 4, 0, 0, .null), (.iconst 0, 0, 0, 0, .int 0), (.aload_n 0, 0, 0, 0, .null), (.iload_n 1, 1, 0, 0, .null), (.iload_n 2, 2, 0, 0, .null), (.iload_n 3, 3, 0, 0, .null)]
theorem kL_foretold_0 : kx_oks kxL_L false cL_foretold 0 bL_foretold_0 = true := by decide +kernel
def bL_foretold_10 : List kx_O := [(.i2l, 0, 0, 0, .null), (.lastore, 0, 0, 0, .null), (.goto 15, 27, 0, 0, .null)]
theorem kL_foretold_10 : kx_oks kxL_L false cL_foretold 10 bL_foretold_10 = true := by decide +kernel
def bL_foretold_15 : List kx_O := [(.astore 5, 5, 0, 0, .null), (.iconst 1, 0, 0, 0, .int 1), (.ireturn, 0, 0, 0, .null)]
theorem kL_foretold_15 : kx_oks kxL_L false cL_foretold 15 bL_foretold_15 = true := by decide +kernel
def bL_foretold_19 : List kx_O := [(.astore 5, 5, 0, 0, .null), (.iconst 2, 0, 0, 0, .int 2), (.ireturn, 0, 0, 0, .null)]
theorem kL_foretold_19 : kx_oks kxL_L false cL_foretold 19 bL_foretold_19 = true := by decide +kernel
def bL_foretold_23 : List kx_O := [(.astore 5, 5, 0, 0, .null), (.iconst 3, 0, 0, 0, .int 3), (.ireturn, 0, 0, 0, .null)]
theorem kL_foretold_23 : kx_oks kxL_L false cL_foretold 23 bL_foretold_23 = true := by decide +kernel
def bL_foretold_27 : List kx_O := [(.iconst 0, 0, 0, 0, .int 0), (.ireturn, 0, 0, 0, .null)]
theorem kL_foretold_27 : kx_oks kxL_L false cL_foretold 27 bL_foretold_27 = true := by decide +kernel
theorem dL_foretold_7 : decode cL_foretold 7 = .ok (.invokevirtual 107, 3) := by decide +kernel
set_option maxHeartbeats 4000000 in
theorem cw_foretold_t (l : Launch) (G : kx_G) {P : kx_P} {sz : Nat} {f : Nat → Value} (h64 : P 64 = kO 10 f) {xa xb xc : Int32} {d mc ms : Nat} {Po : Option Value → kx_P → Nat → Prop} (hM : kx_Mn l G sX10_foretold d mc ms (.ref 64 :: [.int xa, .int xb, .int xc]) P sz Po) (hp : ∀ r P2 s2, Po r P2 s2 → ∃ (v : Value) (go : Nat → Int64), r = some v ∧ cvT sX11_foretold v ∧ P2 143 = kL 1 go) : kx_Mw l G sL_foretold hL_foretold (d + 1) mc ms [.ref 64, .int xa, .int xb, .int xc, .ref 143] P sz (cPt Po) := by
  refine kx_mkw kx_tab kxLok_L [some (.ref 64), some (.int xa), some (.int xb), some (.int xc), some (.ref 143), none] ⟨by decide +kernel, rfl, by omega⟩ rfl (fun r P' s' h => by obtain ⟨v, P2, go, -, h, -⟩ := h; exact ⟨0, h⟩) rfl rfl (fun g hB hC hN hK => ?_)
  refine hB bL_foretold_0 _ _ _ _ _ _ _ kL_foretold_0 ?_
  dsimp only [bL_foretold_0, kx_wp, kx_step, kx_lI, kx_lL, kx_lA, kx_gl, kx_pI, kx_pL, kx_pR, kx_pA, kx_pV, kx_s1, kx_s2, kx_sl, kx_pre, kx_c2, kx_pl, kx_cmp, kx_oF, kx_eqN, kx_nil, kx_c1, kx_ft, kx_aI, kx_aL, kx_aR, kx_ln, Nat.reduceAdd, Option.toList, List.cons_append, List.nil_append]
  refine hN.1 107 _ _ _ _ _ _ _ 10 _ _ _ _ _ _ _ _ _ _ lL_107 hM ⟨by decide, rfl⟩ h64 rfl rfl (Nat.le_of_ble_eq_true rfl) (by omega) (by decide) (by omega) (by omega) dL_foretold_7 ?_
  intro r P2 s2 hP2
  obtain ⟨v, go, e1, e2, e3⟩ := hp r P2 s2 hP2
  subst e1
  obtain ⟨x, e4⟩ := e2.2 (by decide)
  subst e4
  dsimp only [Option.toList, List.cons_append, List.nil_append]
  refine hB bL_foretold_10 _ _ _ _ _ _ _ kL_foretold_10 ?_
  dsimp only [bL_foretold_10, kx_wp, kx_step, kx_lI, kx_lL, kx_lA, kx_gl, kx_pI, kx_pL, kx_pR, kx_pA, kx_pV, kx_s1, kx_s2, kx_sl, kx_pre, kx_c2, kx_pl, kx_cmp, kx_oF, kx_eqN, kx_nil, kx_c1, kx_ft, kx_aI, kx_aL, kx_aR, kx_ln, Nat.reduceAdd, Option.toList, List.cons_append, List.nil_append]
  simp only [e3]
  try dsimp only [kx_wp, kx_step, kx_lI, kx_lL, kx_lA, kx_gl, kx_pI, kx_pL, kx_pR, kx_pA, kx_pV, kx_s1, kx_s2, kx_sl, kx_pre, kx_c2, kx_pl, kx_cmp, kx_oF, kx_eqN, kx_nil, kx_c1, kx_ft, kx_aI, kx_aL, kx_aR, kx_ln, Nat.reduceAdd, Option.toList, List.cons_append, List.nil_append]
  refine ⟨by decide, by unfold vp_in; decide, ?_⟩
  refine hB bL_foretold_27 _ _ _ _ _ _ _ kL_foretold_27 ?_
  dsimp only [bL_foretold_27, kx_wp, kx_step, kx_lI, kx_lL, kx_lA, kx_gl, kx_pI, kx_pL, kx_pR, kx_pA, kx_pV, kx_s1, kx_s2, kx_sl, kx_pre, kx_c2, kx_pl, kx_cmp, kx_oF, kx_eqN, kx_nil, kx_c1, kx_ft, kx_aI, kx_aL, kx_aR, kx_ln, Nat.reduceAdd, Option.toList, List.cons_append, List.nil_append]
  exact ⟨_, P2, go, hP2, rfl, e3, rfl⟩

theorem dL_foretold_15 : decode cL_foretold 15 = .ok (.astore 5, 2) := by decide +kernel
theorem dL_foretold_17 : decode cL_foretold 17 = .ok (.iconst 1, 1) := by decide +kernel
theorem dL_foretold_18 : decode cL_foretold 18 = .ok (.ireturn, 1) := by decide +kernel
set_option maxHeartbeats 4000000 in
theorem cw_foretold_x0 (l : Launch) (G : kx_G) {P : kx_P} {sz : Nat} {f : Nat → Value} (h64 : P 64 = kO 10 f) {xa xb xc : Int32} {d : Nat} (hM : kx_X l G sX10_foretold d (.ref 64 :: [.int xa, .int xb, .int xc]) P sz "java/util/NoSuchElementException") : kx_Mw l G sL_foretold hL_foretold (d + 1) 1 6 [.ref 64, .int xa, .int xb, .int xc, .ref 143] P sz (cPx P sz 1) := by
  refine kx_mkw kx_tab kxLok_L [some (.ref 64), some (.int xa), some (.int xb), some (.int xc), some (.ref 143), none] ⟨by decide +kernel, rfl, by omega⟩ rfl (fun r P' s' h => ⟨_, h.1⟩) rfl rfl (fun g hB hC hN hK => ?_)
  refine hB bL_foretold_0 _ _ _ _ _ _ _ kL_foretold_0 ?_
  dsimp only [bL_foretold_0, kx_wp, kx_step, kx_lI, kx_lL, kx_lA, kx_gl, kx_pI, kx_pL, kx_pR, kx_pA, kx_pV, kx_s1, kx_s2, kx_sl, kx_pre, kx_c2, kx_pl, kx_cmp, kx_oF, kx_eqN, kx_nil, kx_c1, kx_ft, kx_aI, kx_aL, kx_aR, kx_ln, Nat.reduceAdd, Option.toList, List.cons_append, List.nil_append]
  exact hK 107 _ _ _ _ _ 10 _ [.int 0, .ref 143] _ _ _ _ _ "java/util/NoSuchElementException" [] [(0, 12, 19, 13), (0, 12, 23, 22)] (0, 12, 15, 27) 2 1 lL_107 hM ⟨by decide, rfl⟩ h64 rfl rfl (Nat.le_of_ble_eq_true rfl) (by omega) (by decide) (by decide) (by decide) dL_foretold_7 rfl (by decide) (by decide) (by decide) (kx_at_l kxC_L 1 rfl) (fun q h => by cases h) (Or.inr ⟨5, dL_foretold_15, Nat.le_of_ble_eq_true rfl, rfl⟩) dL_foretold_17 dL_foretold_18 (fun s2 hs => ⟨rfl, rfl, hs⟩)

theorem dL_foretold_19 : decode cL_foretold 19 = .ok (.astore 5, 2) := by decide +kernel
theorem dL_foretold_21 : decode cL_foretold 21 = .ok (.iconst 2, 1) := by decide +kernel
theorem dL_foretold_22 : decode cL_foretold 22 = .ok (.ireturn, 1) := by decide +kernel
set_option maxHeartbeats 4000000 in
theorem cw_foretold_x1 (l : Launch) (G : kx_G) {P : kx_P} {sz : Nat} {f : Nat → Value} (h64 : P 64 = kO 10 f) {xa xb xc : Int32} {d : Nat} (hM : kx_X l G sX10_foretold d (.ref 64 :: [.int xa, .int xb, .int xc]) P sz "java/lang/IllegalArgumentException") : kx_Mw l G sL_foretold hL_foretold (d + 1) 1 6 [.ref 64, .int xa, .int xb, .int xc, .ref 143] P sz (cPx P sz 2) := by
  refine kx_mkw kx_tab kxLok_L [some (.ref 64), some (.int xa), some (.int xb), some (.int xc), some (.ref 143), none] ⟨by decide +kernel, rfl, by omega⟩ rfl (fun r P' s' h => ⟨_, h.1⟩) rfl rfl (fun g hB hC hN hK => ?_)
  refine hB bL_foretold_0 _ _ _ _ _ _ _ kL_foretold_0 ?_
  dsimp only [bL_foretold_0, kx_wp, kx_step, kx_lI, kx_lL, kx_lA, kx_gl, kx_pI, kx_pL, kx_pR, kx_pA, kx_pV, kx_s1, kx_s2, kx_sl, kx_pre, kx_c2, kx_pl, kx_cmp, kx_oF, kx_eqN, kx_nil, kx_c1, kx_ft, kx_aI, kx_aL, kx_aR, kx_ln, Nat.reduceAdd, Option.toList, List.cons_append, List.nil_append]
  exact hK 107 _ _ _ _ _ 10 _ [.int 0, .ref 143] _ _ _ _ _ "java/lang/IllegalArgumentException" [(0, 12, 15, 27)] [(0, 12, 23, 22)] (0, 12, 19, 13) 2 2 lL_107 hM ⟨by decide, rfl⟩ h64 rfl rfl (Nat.le_of_ble_eq_true rfl) (by omega) (by decide) (by decide) (by decide) dL_foretold_7 rfl (by decide) (by decide) (by decide) (kx_at_l kxC_L 0 rfl) (fun q h => by
    simp only [List.mem_cons, List.not_mem_nil, or_false] at h
    rcases h with rfl
    · exact ⟨by decide, _, kx_at_l kxC_L 1 rfl, by decide⟩) (Or.inr ⟨5, dL_foretold_19, Nat.le_of_ble_eq_true rfl, rfl⟩) dL_foretold_21 dL_foretold_22 (fun s2 hs => ⟨rfl, rfl, hs⟩)

theorem dL_foretold_23 : decode cL_foretold 23 = .ok (.astore 5, 2) := by decide +kernel
theorem dL_foretold_25 : decode cL_foretold 25 = .ok (.iconst 3, 1) := by decide +kernel
theorem dL_foretold_26 : decode cL_foretold 26 = .ok (.ireturn, 1) := by decide +kernel
set_option maxHeartbeats 4000000 in
theorem cw_foretold_x2 (l : Launch) (G : kx_G) {P : kx_P} {sz : Nat} {f : Nat → Value} (h64 : P 64 = kO 10 f) {xa xb xc : Int32} {d : Nat} (hM : kx_X l G sX10_foretold d (.ref 64 :: [.int xa, .int xb, .int xc]) P sz "java/lang/IllegalStateException") : kx_Mw l G sL_foretold hL_foretold (d + 1) 1 6 [.ref 64, .int xa, .int xb, .int xc, .ref 143] P sz (cPx P sz 3) := by
  refine kx_mkw kx_tab kxLok_L [some (.ref 64), some (.int xa), some (.int xb), some (.int xc), some (.ref 143), none] ⟨by decide +kernel, rfl, by omega⟩ rfl (fun r P' s' h => ⟨_, h.1⟩) rfl rfl (fun g hB hC hN hK => ?_)
  refine hB bL_foretold_0 _ _ _ _ _ _ _ kL_foretold_0 ?_
  dsimp only [bL_foretold_0, kx_wp, kx_step, kx_lI, kx_lL, kx_lA, kx_gl, kx_pI, kx_pL, kx_pR, kx_pA, kx_pV, kx_s1, kx_s2, kx_sl, kx_pre, kx_c2, kx_pl, kx_cmp, kx_oF, kx_eqN, kx_nil, kx_c1, kx_ft, kx_aI, kx_aL, kx_aR, kx_ln, Nat.reduceAdd, Option.toList, List.cons_append, List.nil_append]
  exact hK 107 _ _ _ _ _ 10 _ [.int 0, .ref 143] _ _ _ _ _ "java/lang/IllegalStateException" [(0, 12, 15, 27), (0, 12, 19, 13)] [] (0, 12, 23, 22) 2 3 lL_107 hM ⟨by decide, rfl⟩ h64 rfl rfl (Nat.le_of_ble_eq_true rfl) (by omega) (by decide) (by decide) (by decide) dL_foretold_7 rfl (by decide) (by decide) (by decide) (kx_at_l kxC_L 2 rfl) (fun q h => by
    simp only [List.mem_cons, List.not_mem_nil, or_false] at h
    rcases h with rfl | rfl
    · exact ⟨by decide, _, kx_at_l kxC_L 1 rfl, by decide⟩
    · exact ⟨by decide, _, kx_at_l kxC_L 0 rfl, by decide⟩) (Or.inr ⟨5, dL_foretold_23, Nat.le_of_ble_eq_true rfl, rfl⟩) dL_foretold_25 dL_foretold_26 (fun s2 hs => ⟨rfl, rfl, hs⟩)


/-! printed by wip/whole/nD3.py: the law's loop, its start -/
theorem cl_lt {Ln i : Nat} (hL : Ln ≤ 3072) (hi : i ≤ 3078) : (Int32.ofNat Ln - 6 < nI i) ↔ ¬ i + 6 ≤ Ln := by
  show (nI Ln - nI 6 < nI i) ↔ ¬ i + 6 ≤ Ln
  by_cases h : 6 ≤ Ln
  · rw [pk_sub h]
    have := nI_ltI (a := Ln - 6) (b := i) (by omega) (by omega)
    rw [this]
    omega
  · have h1 := pk_sneg (a := Ln) (b := 6) (by omega) (by omega)
    exact ⟨fun _ => by omega, fun _ => Int32.lt_of_lt_of_le h1 (nI_pos' (by omega))⟩

set_option maxRecDepth 100000 in
set_option maxHeartbeats 4000000 in
/-- one turn of the loop -/
theorem cl_turn (l : Launch) (G : kx_G) (hst : l.stackTraces = false) {Ln : Nat} {xs : Nat → Int32} (hL : Ln ≤ 3072) {g : kx_F} (hB : kx_rB kxL_L false cL_law_ 601024 7293033 (fun r _ _ => r = some (.int 1)) g) (hN : kx_rN l G RL cL_law_ 60 601024 7293033 g) (hW : kx_rW l G RL cL_law_ 60 601024 7293033 g) {P : kx_P} {sz : Nat} {M : Nat → Int32} {A : Nat → Nat → Int32} {L : Nat → Nat → Int64} {cl mi se : Nat} {bl : Nat → Nat} {go : Nat → Int64} {i k n : Nat} {o5 o6 o7 : Option Value} (h : cI P sz (M, A, L) cl mi se bl) (h3 : P 3 = kI 5 Ln xs) (h143 : P 143 = kL 1 go) (hi : i + 6 ≤ Ln) (hk : k + 8 ≤ 601024) (hn : n + cro bl + 2206 ≤ 7293033) (hse : se ≤ 999) (hgo : cAf g Ln xs i se k n bl) : g 33 [some (.ref 3), some (.ref 64), some (.ref 93), some (.ref 143), some (.int (nI i)), o5, o6, o7] [] P sz k n := by
  have c0x : (nI i).toNatClampNeg = i := nI_clamp (by omega)
  have hin : vp_in (nI i) Ln := vp_in_nI (by omega) (by omega)
  refine hB bL_law__33 _ _ _ _ _ _ _ kL_law__33 ?_
  dsimp only [bL_law__33, kx_wp, kx_step, kx_lI, kx_lL, kx_lA, kx_gl, kx_pI, kx_pL, kx_pR, kx_pA, kx_pV, kx_s1, kx_s2, kx_sl, kx_pre, kx_c2, kx_pl, kx_cmp, kx_oF, kx_eqN, kx_nil, kx_c1, kx_ft, kx_aI, kx_aL, kx_aR, kx_ln, Nat.reduceAdd, Option.toList, List.cons_append, List.nil_append]
  simp only [h3, c0x]
  try dsimp only [kx_wp, kx_step, kx_lI, kx_lL, kx_lA, kx_gl, kx_pI, kx_pL, kx_pR, kx_pA, kx_pV, kx_s1, kx_s2, kx_sl, kx_pre, kx_c2, kx_pl, kx_cmp, kx_oF, kx_eqN, kx_nil, kx_c1, kx_ft, kx_aI, kx_aL, kx_aR, kx_ln, Nat.reduceAdd, Option.toList, List.cons_append, List.nil_append]
  refine ⟨hin, fun _ => hgo P sz (M, A, L) cl mi se bl go k n o5 o6 o7 h h3 h143 (by omega) (by omega) (by omega), ?_⟩
  refine kx_sw (ws := [192, 248, 289, 362, 442, 455, 511, 567, 623, 679, 747, 815, 871, 967, 1023, 1091, 1159, 1243, 1311, 1379, 1471, 1563, 1631, 1699, 1791, 1871, 1950, 2017, 2085, 2165, 2233, 2270, 2338, 2418]) rfl ?_
  dsimp only [kx_swl]
  refine ⟨fun _ => ?_, fun _ => ?_, fun _ => ?_, fun _ => ?_, fun _ => ?_, fun _ => ?_, fun _ => ?_, fun _ => ?_, fun _ => ?_, fun _ => ?_, fun _ => ?_, fun _ => ?_, fun _ => ?_, fun _ => ?_, fun _ => ?_, fun _ => ?_, fun _ => ?_, fun _ => ?_, fun _ => ?_, fun _ => ?_, fun _ => ?_, fun _ => ?_, fun _ => ?_, fun _ => ?_, fun _ => ?_, fun _ => ?_, fun _ => ?_, fun _ => ?_, fun _ => ?_, fun _ => ?_, fun _ => ?_, fun _ => ?_, fun _ => ?_, fun _ => ?_, trivial⟩
  · exact cj_warmth l G hst h h3 h143 hi hL hk hn hse hB hN hW hgo
  · by_cases hb : xs (i + 1) = 0
    · exact cj_leap_0 l G hst h h3 h143 hi hL hk hn hse hb hB hN hW hgo
    · exact cj_leap_1 l G hst h h3 h143 hi hL hk hn hse hb hB hN hW hgo
  · exact cj_feed l G hst h h3 h143 hi hL hk hn hse hB hN hW hgo
  · exact cj_clock l G hst h h3 h143 hi hL hk hn hse hB hN hW hgo
  · exact cj_fault l G hst h h3 h143 hi hL hk hn hse hB hN hW hgo
  · exact cj_wait l G hst h h3 h143 hi hL hk hn hse hB hN hW hgo
  · exact cj_dial l G hst h h3 h143 hi hL hk hn hse hB hN hW hgo
  · exact cj_error l G hst h h3 h143 hi hL hk hn hse hB hN hW hgo
  · exact cj_rate l G hst h h3 h143 hi hL hk hn hse hB hN hW hgo
  · exact cj_told l G hst h h3 h143 hi hL hk hn hse hB hN hW hgo
  · exact cj_wind l G hst h h3 h143 hi hL hk hn hse hB hN hW hgo
  · exact cj_oil l G hst h h3 h143 hi hL hk hn hse hB hN hW hgo
  · by_cases hb : xs (i + 3) = 0
    · exact cj_hands_0 l G hst h h3 h143 hi hL hk hn hse hb hB hN hW hgo
    · exact cj_hands_1 l G hst h h3 h143 hi hL hk hn hse hb hB hN hW hgo
  · exact cj_date l G hst h h3 h143 hi hL hk hn hse hB hN hW hgo
  · exact cj_pennies l G hst h h3 h143 hi hL hk hn hse hB hN hW hgo
  · exact cj_refit l G hst h h3 h143 hi hL hk hn hse hB hN hW hgo
  · by_cases hb : xs (i + 2) = 0
    · exact cj_trip_0 l G hst h h3 h143 hi hL hk hn hse hb hB hN hW hgo
    · exact cj_trip_1 l G hst h h3 h143 hi hL hk hn hse hb hB hN hW hgo
  · exact cj_mend l G hst h h3 h143 hi hL hk hn hse hB hN hW hgo
  · exact cj_sounding l G hst h h3 h143 hi hL hk hn hse hB hN hW hgo
  · exact cj_heard l G hst h h3 h143 hi hL hk hn hse hB hN hW hgo
  · exact cj_witness l G hst h h3 h143 hi hL hk hn hse hB hN hW hgo
  · exact cj_keeper l G hst h h3 h143 hi hL hk hn hse hB hN hW hgo
  · exact cj_round l G hst h h3 h143 hi hL hk hn hse hB hN hW hgo
  · exact cj_plan l G hst h h3 h143 hi hL hk hn hse hB hN hW hgo
  · exact cj_read l G hst h h3 h143 hi hL hk hn hse hB hN hW hgo
  · exact cj_reckoned l G hst h h3 h143 hi hL hk hn hse hB hN hW hgo
  · exact cj_speed l G hst h h3 h143 hi hL hk hn hse hB hN hW hgo
  · exact cj_regulated l G hst h h3 h143 hi hL hk hn hse hB hN hW hgo
  · exact cj_beyond l G hst h h3 h143 hi hL hk hn hse hB hN hW hgo
  · exact cj_law l G hst h h3 h143 hi hL hk hn hse hB hN hW hgo
  · exact cj_lawful l G hst h h3 h143 hi hL hk hn hse hB hN hW hgo
  · exact cj_kept l G hst h h3 h143 hi hL hk hn hse hB hN hW hgo
  · exact cj_foretold l G hst h h3 h143 hi hL hk hn hse hB hN hW hgo
  · exact cj_count l G hst h h3 h143 hi hL hk hn hse hB hN hW hgo
/-- the loop's end -/
theorem cl_end (l : Launch) (G : kx_G) (hst : l.stackTraces = false) {Ln : Nat} {xs : Nat → Int32} (hL : Ln ≤ 3072) {g : kx_F} (hB : kx_rB kxL_L false cL_law_ 601024 7293033 (fun r _ _ => r = some (.int 1)) g) (hN : kx_rN l G RL cL_law_ 60 601024 7293033 g) (hW : kx_rW l G RL cL_law_ 60 601024 7293033 g) {P : kx_P} {sz : Nat} {i k n : Nat} {o5 o6 o7 : Option Value} (h3 : P 3 = kI 5 Ln xs) (hi : ¬ i + 6 ≤ Ln) (hi2 : i ≤ 3078) : g 23 [some (.ref 3), some (.ref 64), some (.ref 93), some (.ref 143), some (.int (nI i)), o5, o6, o7] [] P sz k n := by
  refine hB bL_law__23 _ _ _ _ _ _ _ kL_law__23 ?_
  dsimp only [bL_law__23, kx_wp, kx_step, kx_lI, kx_lL, kx_lA, kx_gl, kx_pI, kx_pL, kx_pR, kx_pA, kx_pV, kx_s1, kx_s2, kx_sl, kx_pre, kx_c2, kx_pl, kx_cmp, kx_oF, kx_eqN, kx_nil, kx_c1, kx_ft, kx_aI, kx_aL, kx_aR, kx_ln, Nat.reduceAdd, Option.toList, List.cons_append, List.nil_append]
  simp only [h3]
  try dsimp only [kx_wp, kx_step, kx_lI, kx_lL, kx_lA, kx_gl, kx_pI, kx_pL, kx_pR, kx_pA, kx_pV, kx_s1, kx_s2, kx_sl, kx_pre, kx_c2, kx_pl, kx_cmp, kx_oF, kx_eqN, kx_nil, kx_c1, kx_ft, kx_aI, kx_aL, kx_aR, kx_ln, Nat.reduceAdd, Option.toList, List.cons_append, List.nil_append]
  refine ⟨fun _ => ?_, fun zc => absurd ((cl_lt hL hi2).mpr hi) zc⟩
  refine hB bL_law__2449 _ _ _ _ _ _ _ kL_law__2449 ?_
  dsimp only [bL_law__2449, kx_wp, kx_step, kx_lI, kx_lL, kx_lA, kx_gl, kx_pI, kx_pL, kx_pR, kx_pA, kx_pV, kx_s1, kx_s2, kx_sl, kx_pre, kx_c2, kx_pl, kx_cmp, kx_oF, kx_eqN, kx_nil, kx_c1, kx_ft, kx_aI, kx_aL, kx_aR, kx_ln, Nat.reduceAdd, Option.toList, List.cons_append, List.nil_append]
theorem cl_loop (l : Launch) (G : kx_G) (hst : l.stackTraces = false) {Ln : Nat} {xs : Nat → Int32} (hL : Ln ≤ 3072) {g : kx_F} (hB : kx_rB kxL_L false cL_law_ 601024 7293033 (fun r _ _ => r = some (.int 1)) g) (hN : kx_rN l G RL cL_law_ 60 601024 7293033 g) (hW : kx_rW l G RL cL_law_ 60 601024 7293033 g) : ∀ (f i : Nat), Ln ≤ i + 6 * f → i ≤ 3078 → ∀ (P : kx_P) (sz : Nat) (S : ck_S) (cl mi se : Nat) (bl : Nat → Nat) (go : Nat → Int64) (k n : Nat) (o5 o6 o7 : Option Value), cI P sz S cl mi se bl → P 3 = kI 5 Ln xs → P 143 = kL 1 go → 6 * se ≤ i → 6 * k ≤ 600 + 8 * i → 6 * (n + cro bl) ≤ 1440000 + 2206 * i → g 23 [some (.ref 3), some (.ref 64), some (.ref 93), some (.ref 143), some (.int (nI i)), o5, o6, o7] [] P sz k n := by
  intro f
  induction f with
  | zero =>
    intro i hf hi2 P sz S cl mi se bl go k n o5 o6 o7 h h3 h143 hse hk hn
    exact cl_end l G hst hL hB hN hW h3 (by omega) hi2
  | succ f ih =>
    intro i hf hi2 P sz S cl mi se bl go k n o5 o6 o7 h h3 h143 hse hk hn
    by_cases hi : i + 6 ≤ Ln
    · obtain ⟨M, A, L⟩ := S
      refine hB bL_law__23 _ _ _ _ _ _ _ kL_law__23 ?_
      dsimp only [bL_law__23, kx_wp, kx_step, kx_lI, kx_lL, kx_lA, kx_gl, kx_pI, kx_pL, kx_pR, kx_pA, kx_pV, kx_s1, kx_s2, kx_sl, kx_pre, kx_c2, kx_pl, kx_cmp, kx_oF, kx_eqN, kx_nil, kx_c1, kx_ft, kx_aI, kx_aL, kx_aR, kx_ln, Nat.reduceAdd, Option.toList, List.cons_append, List.nil_append]
      simp only [h3]
      try dsimp only [kx_wp, kx_step, kx_lI, kx_lL, kx_lA, kx_gl, kx_pI, kx_pL, kx_pR, kx_pA, kx_pV, kx_s1, kx_s2, kx_sl, kx_pre, kx_c2, kx_pl, kx_cmp, kx_oF, kx_eqN, kx_nil, kx_c1, kx_ft, kx_aI, kx_aL, kx_aR, kx_ln, Nat.reduceAdd, Option.toList, List.cons_append, List.nil_append]
      refine ⟨fun zc => absurd hi ((cl_lt hL hi2).mp zc), fun _ => ?_⟩
      refine cl_turn l G hst hL hB hN hW h h3 h143 hi (by omega) (by omega) (by omega) ?_
      intro P' sz' S' cl' mi' se' bl' go' k' n' p5 p6 p7 h' h3' h143' hse' hk' hn'
      have e6 : nI i + 6 = nI (i + 6) := by rw [show (6 : Int32) = nI 6 from rfl, nI_add]
      refine hB bL_law__2443 _ _ _ _ _ _ _ kL_law__2443 ?_
      dsimp only [bL_law__2443, kx_wp, kx_step, kx_lI, kx_lL, kx_lA, kx_gl, kx_pI, kx_pL, kx_pR, kx_pA, kx_pV, kx_s1, kx_s2, kx_sl, kx_pre, kx_c2, kx_pl, kx_cmp, kx_oF, kx_eqN, kx_nil, kx_c1, kx_ft, kx_aI, kx_aL, kx_aR, kx_ln, Nat.reduceAdd, Option.toList, List.cons_append, List.nil_append]
      rw [e6]
      exact ih (i + 6) (by omega) (by omega) P' sz' S' cl' mi' se' bl' go' k' n' p5 p6 p7 h' h3' h143' (by omega) (by omega) (by omega)
    · exact cl_end l G hst hL hB hN hW h3 hi hi2
/-- the world at the law's entry -/
def cP0 (Ln : Nat) (xs : Nat → Int32) : kx_P := fun n => if n = 1 then kI 5 12 cj_md else if n = 2 then kI 5 11 cj_nf else if n = 3 then kI 5 Ln xs else none
def cM0 : Nat → Int32 := fun j => if j = 14 then -1 else 0
def cP1 (Ln : Nat) (xs : Nat → Int32) : kx_P := kx_set (mW cM0 (fun _ _ => 0) (fun _ _ => 0) (cx_w0 (cP0 Ln xs))) 143 (kL 1 (fun _ => 0))
theorem cP1_o {Ln : Nat} {xs : Nat → Int32} {n : Nat} (h : ¬ (93 ≤ n ∧ n ≤ 143)) : cP1 Ln xs n = cx_w0 (cP0 Ln xs) n := by
  unfold cP1
  rw [ks_ne (by omega)]
  exact mW_out (by omega)
theorem cP1_n {Ln : Nat} {xs : Nat → Int32} {n : Nat} (h : 144 ≤ n) : cP1 Ln xs n = none := by
  rw [cP1_o (by omega)]
  unfold cx_w0
  rw [if_neg (by omega), if_neg (by omega), if_neg (by omega), if_neg (by omega), if_neg (by omega), if_neg (by omega), if_neg (by omega), if_neg (by omega), if_neg (by omega), if_neg (by omega), if_neg (by omega), if_neg (by omega), if_neg (by omega), if_neg (by omega), if_neg (by omega), if_neg (by omega), if_neg (by omega), if_neg (by omega), if_neg (by omega), if_neg (by omega), if_neg (by omega), if_neg (by omega), if_neg (by omega), if_neg (by omega), if_neg (by omega), if_neg (by omega), if_neg (by omega), if_neg (by omega), if_neg (by omega)]
  unfold cP0
  rw [if_neg (by omega), if_neg (by omega), if_neg (by omega)]
theorem cI_0s {Ln : Nat} {xs : Nat → Int32} : cI (cP1 Ln xs) 144 (cM0, fun _ _ => 0, fun _ _ => 0) 0 0 0 (fun _ => 0) := by
  have q : ∀ n, ¬ (93 ≤ n ∧ n ≤ 143) → cP1 Ln xs n = cx_w0 (cP0 Ln xs) n := fun n hn => cP1_o hn
  refine ⟨0, ?_, ?_, ⟨⟨Nat.le_refl _, fun p _ h => absurd rfl h, fun p q _ _ _ h => absurd rfl h, fun i _ => ⟨⟨fun h => absurd rfl h, fun h => absurd h (Nat.not_lt_zero _)⟩, ⟨fun h => absurd rfl h, fun h => absurd h (Nat.not_lt_zero _)⟩⟩⟩, fun i hi => absurd hi (Nat.not_lt_zero _), fun h => absurd rfl h, fun h => absurd rfl h, fun n hn => cP1_n hn⟩, ?_⟩
  · refine ⟨⟨0, 0, 0, 0, rfl, rfl, by decide, by decide, rfl, rfl⟩, rfl, by decide, rfl, by decide, Or.inl rfl, rfl, ⟨0, by decide, rfl⟩, ⟨0, by decide, rfl, fun j hj => absurd hj (Nat.not_lt_zero _)⟩, rfl, by decide, fun i _ hi => absurd hi (Nat.not_lt_zero _), fun i hi => absurd hi (Nat.not_lt_zero _), fun i hi => absurd hi (Nat.not_lt_zero _), ⟨0, by decide, rfl, fun j hj => absurd hj (Nat.not_lt_zero _)⟩, ⟨0, by decide, rfl, fun j hj => absurd hj (Nat.not_lt_zero _)⟩⟩
  · have e69 : (fun i => if i < 0 then some ((fun _ => 0 : Nat → Nat) (8 + i)) else none) = (fun _ => none : Nat → Option Nat) := by
      funext i
      rw [if_neg (Nat.not_lt_zero _)]
    unfold cR_st cx_SR
    rw [e69]
    rw [q 64 (by omega), q 65 (by omega), q 66 (by omega), q 67 (by omega), q 68 (by omega), q 69 (by omega), q 70 (by omega), q 71 (by omega), q 72 (by omega), q 73 (by omega), q 74 (by omega), q 75 (by omega), q 76 (by omega), q 77 (by omega), q 78 (by omega), q 79 (by omega), q 80 (by omega), q 81 (by omega), q 82 (by omega), q 83 (by omega), q 84 (by omega), q 85 (by omega), q 86 (by omega), q 87 (by omega), q 88 (by omega), q 89 (by omega), q 90 (by omega), q 91 (by omega), q 92 (by omega), q 1 (by omega), q 2 (by omega)]
    refine ⟨⟨_, rfl, rfl, rfl, rfl, rfl, rfl⟩, ⟨_, rfl, rfl, rfl, rfl⟩, rfl, rfl, ⟨_, _, _, rfl⟩, rfl, ⟨_, _, _, _, rfl⟩, ⟨_, rfl, rfl⟩, ⟨rfl, rfl, rfl, rfl⟩, ⟨_, rfl⟩, ⟨_, rfl⟩, ⟨_, _, rfl⟩, ⟨_, rfl⟩, ⟨_, rfl⟩, ⟨_, rfl, rfl⟩, ⟨_, rfl⟩, ⟨_, rfl⟩, ⟨_, rfl, rfl⟩, ⟨rfl, rfl, rfl, rfl⟩, ⟨_, rfl, rfl⟩, ⟨rfl, rfl, rfl⟩, rfl, rfl⟩
  · refine (ck_W_eq (P := mW cM0 (fun _ _ => 0) (fun _ _ => 0) (cx_w0 (cP0 Ln xs))) (ck_W_W (S := (cM0, fun _ _ => 0, fun _ _ => 0)) (R := cx_w0 (cP0 Ln xs))) (fun n n1 n2 => ?_)).symm
    unfold cP1
    exact ks_ne (by omega)
set_option maxRecDepth 100000 in
set_option maxHeartbeats 4000000 in
/-- the law's body, in the pure machine -/
theorem cl_law (l : Launch) (G : kx_G) (hst : l.stackTraces = false) {Ln : Nat} {xs : Nat → Int32} (hL : Ln ≤ 3072) {g : kx_F} (hB : kx_rB kxL_L false cL_law_ 601024 7293033 (fun r _ _ => r = some (.int 1)) g) (hN : kx_rN l G RL cL_law_ 60 601024 7293033 g) (hW : kx_rW l G RL cL_law_ 60 601024 7293033 g) : g 0 [some (.ref 3), none, none, none, none, none, none, none] [] (cP0 Ln xs) 64 0 0 := by
  refine hB bL_law__0 _ _ _ _ _ _ _ kL_law__0 ?_
  dsimp only [bL_law__0, kx_wp, kx_step, kx_lI, kx_lL, kx_lA, kx_gl, kx_pI, kx_pL, kx_pR, kx_pA, kx_pV, kx_s1, kx_s2, kx_sl, kx_pre, kx_c2, kx_pl, kx_cmp, kx_oF, kx_eqN, kx_nil, kx_c1, kx_ft, kx_aI, kx_aL, kx_aR, kx_ln, Nat.reduceAdd, Option.toList, List.cons_append, List.nil_append]
  refine ⟨by decide, Nat.le_of_ble_eq_true rfl, ?_⟩
  refine hN.2.2 110 _ _ _ _ _ _ _ _ _ _ _ _ _ _ _ _ (Or.inl lL_110) (ct_X10_init l G (R := cP0 Ln xs)).n (fun r P' s' h => h.1) rfl rfl (Nat.le_of_ble_eq_true rfl) (by decide) (by decide) (by decide) (Nat.le_of_ble_eq_true rfl) dL_law__4 ?_
  rintro r2 P2 s2 ⟨e1, e2, e3⟩
  rw [e2, e3]
  refine hB bL_law__7 _ _ _ _ _ _ _ kL_law__7 ?_
  dsimp only [bL_law__7, kx_wp, kx_step, kx_lI, kx_lL, kx_lA, kx_gl, kx_pI, kx_pL, kx_pR, kx_pA, kx_pV, kx_s1, kx_s2, kx_sl, kx_pre, kx_c2, kx_pl, kx_cmp, kx_oF, kx_eqN, kx_nil, kx_c1, kx_ft, kx_aI, kx_aL, kx_aR, kx_ln, Nat.reduceAdd, Option.toList, List.cons_append, List.nil_append]
  refine ⟨by decide, Nat.le_of_ble_eq_true rfl, ?_⟩
  refine hN.2.2 113 _ _ _ _ _ _ _ _ _ _ _ _ _ _ _ _ (Or.inl lL_113) (ct_X11_init l G (R := cx_w0 (cP0 Ln xs))).n (fun r P' s' h => h.1) rfl rfl (Nat.le_of_ble_eq_true rfl) (by decide) (by decide) (by decide) (Nat.le_of_ble_eq_true rfl) dL_law__12 ?_
  rintro r2 P2 s2 ⟨e1, e2, e3⟩
  rw [e2, e3]
  refine hB bL_law__15 _ _ _ _ _ _ _ kL_law__15 ?_
  dsimp only [bL_law__15, kx_wp, kx_step, kx_lI, kx_lL, kx_lA, kx_gl, kx_pI, kx_pL, kx_pR, kx_pA, kx_pV, kx_s1, kx_s2, kx_sl, kx_pre, kx_c2, kx_pl, kx_cmp, kx_oF, kx_eqN, kx_nil, kx_c1, kx_ft, kx_aI, kx_aL, kx_aR, kx_ln, Nat.reduceAdd, Option.toList, List.cons_append, List.nil_append]
  refine ⟨by decide, by decide, by decide, Nat.le_of_ble_eq_true rfl, ?_⟩
  refine cl_loop (xs := xs) l G hst hL hB hN hW 512 0 (by omega) (by omega) (cP1 Ln xs) 144 (cM0, fun _ _ => 0, fun _ _ => 0) 0 0 0 (fun _ => 0) (fun _ => 0) _ _ none none none cI_0s ?_ (ks_eq _ _ _) (by omega) ?_ ?_
  · rw [cP1_o (by omega)]
    rfl
  · decide
  · unfold cro
    rw [if_pos rfl]
    decide


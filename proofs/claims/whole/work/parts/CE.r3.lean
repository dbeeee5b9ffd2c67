/-! The beginning and the end of a MINUTE -/
/-- behind a call: the class stands as the reference in state S -/
def cR_af (P P2 : kx_P) (S : ck_S) (cl mi se sz : Nat) (bl : Nat → Nat) : Prop := ∃ sd : Nat, cR_m S.1 S.2.1 S.2.2 cl mi sd ∧ cR_st P2 S.1 S.2.1 cl se bl ∧ cR_dy P2 S.2.1 S.2.2 cl se sz bl (fun _ => mi) ∧ cR_fx P P2
theorem ck_kh_o {D : Nat → Int64} {h : Nat} {K : Nat → Int32} {j : Nat} : ∀ n, (∀ c, c < n → ¬ j = 1700 * c + h) → ck_kh D h K n j = K j := by
  intro n
  induction n with
  | zero => intro _; rfl
  | succ n ih =>
    intro hj
    rw [ck_kh, pk_un (hj n (Nat.lt_succ_self _))]
    exact ih (fun c hc => hj c (by omega))
theorem ck_kh_i {D : Nat → Int64} {h : Nat} {K : Nat → Int32} {c : Nat} : ∀ n, c < n → ck_kh D h K n (1700 * c + h) = (D c / 1000).toInt32 := by
  intro n
  induction n with
  | zero => intro hc; exact absurd hc (Nat.not_lt_zero _)
  | succ n ih =>
    intro hc
    rw [ck_kh]
    by_cases e : c = n
    · rw [e, pk_us]
    · rw [pk_un (by omega)]
      exact ih (by omega)
theorem cR_mg {M : Nat → Int32} {A : Nat → Nat → Int32} {L : Nat → Nat → Int64} {cl mi : Nat} (h1 : M 1 = nI mi) (hmi : mi < 100000) (h49 : M 49 = 0) : (∀ k, k ≠ 122 → ck_mgA (M, A, L) cl k = A k) ∧ (mi % 60 = 0 → ∀ i, i < cl → ck_mgA (M, A, L) cl 122 (1700 * i + mi / 60) = (L 116 i / 1000).toInt32) ∧ ∀ i h, h < 1667 → 60 * h < mi → ck_mgA (M, A, L) cl 122 (1700 * i + h) = A 122 (1700 * i + h) := by
  have e : ck_mn1 (M 1) = mi := by unfold ck_mn1; rw [h1]; exact nI_clamp (by omega)
  unfold ck_mgA
  try dsimp only
  rw [e]
  by_cases h60 : mi % 60 = 0
  · rw [if_pos ⟨h60, h49⟩]
    refine ⟨fun k hk => va_upn hk, fun _ i hi => ?_, fun i h hh hm => ?_⟩
    · rw [va_us]; exact ck_kh_i cl hi
    · rw [va_us]
      exact ck_kh_o cl (fun c hc z => by omega)
  · rw [if_neg (fun z => h60 z.1)]
    exact ⟨fun k _ => rfl, fun z => absurd z h60, fun i h _ _ => rfl⟩
theorem cR_L_0 {P : kx_P} {M : Nat → Int32} {A : Nat → Nat → Int32} {L : Nat → Nat → Int64} {cl mi sd se sz : Nat} {bl : Nat → Nat} (hst : cR_st P M A cl se bl) (hdy : cR_dy P A L cl se sz bl (fun _ => mi)) (hm : cR_m M A L cl mi sd) (hmi : mi < 100000) : cR_L P P (M, ck_mgA (M, A, L) cl, L) cl mi se sz bl 0 := by
  obtain ⟨a0, a1, a2, a3, a4, a5, a6, a7, a8, a9, a10, a11, a12, ac, a13, a14⟩ := hm
  obtain ⟨g1, g2, g3⟩ := cR_mg (A := A) (L := L) (cl := cl) a3 hmi a6
  generalize ck_mgA (M, A, L) cl = A' at g1 g2 g3 ⊢
  have e : ∀ k, k ≠ 122 → A' k = A k := g1
  obtain ⟨hB, hc, hsp, hno, hnn⟩ := hdy
  have hg' : ∀ i, i < cl → cR_g A' L i := by
    intro i hi
    have := a12 i hi
    unfold cR_g ck_ci ck_wf ck_rg cR_i at this ⊢
    rw [e 102 (by decide), e 103 (by decide), e 104 (by decide), e 105 (by decide), e 106 (by decide), e 108 (by decide), e 109 (by decide), e 110 (by decide), e 111 (by decide), e 112 (by decide), e 113 (by decide), e 114 (by decide), e 115 (by decide), e 117 (by decide), e 100 (by decide), e 101 (by decide)]
    exact this
  refine ⟨?_, ⟨hB, fun i hi => ?_, hsp, hno, hnn⟩, cR_fx.rf P, a3, a6, ?_, fun i hi => ⟨hg' i hi, by show (A' 114 i).toNatClampNeg ≤ mi; rw [e 114 (by decide)]; exact ac i hi⟩, ⟨sd, a9, by omega, ?_⟩, fun i _ hi h60 => g2 h60 i hi⟩
  · unfold cR_st at hst ⊢
    dsimp only
    rw [e 94 (by decide), e 95 (by decide), e 118 (by decide), e 119 (by decide), e 120 (by decide), e 121 (by decide), e 130 (by decide), e 131 (by decide), e 132 (by decide), e 133 (by decide), e 134 (by decide), e 135 (by decide), e 136 (by decide)]
    exact hst
  · obtain ⟨V, T, Q, Fo, St, S, C, Kp, h1, h2, h3, h4, h5, h6⟩ := hc i hi
    refine ⟨V, T, Q, Fo, St, S, C, Kp, h1, h2, h3, ?_, ?_, fun q hq => ?_⟩
    · unfold cR_v at h4 ⊢
      dsimp only
      rw [e 102 (by decide), e 103 (by decide), e 104 (by decide), e 105 (by decide), e 106 (by decide), e 107 (by decide), e 117 (by decide)]
      exact h4
    · unfold cR_C at h5 ⊢
      dsimp only
      rw [e 100 (by decide), e 101 (by decide), e 111 (by decide), e 112 (by decide), e 108 (by decide), e 109 (by decide), e 110 (by decide), e 115 (by decide), e 113 (by decide), e 117 (by decide)]
      exact h5
    · show Kp q = if 60 * q < (if i < 0 then mi + 1 else mi) ∧ (A' 114 i).toNatClampNeg ≤ 60 * q then A' 122 (1700 * i + q) else -1
      rw [if_neg (show ¬ i < 0 by omega), h6 q hq, e 114 (by decide)]
      by_cases hz : 60 * q < mi ∧ (A 114 i).toNatClampNeg ≤ 60 * q
      · rw [if_pos hz, if_pos hz, g3 i q hq hz.1]
      · rw [if_neg hz, if_neg hz]
  · show ck_wo M A'
    unfold ck_wo
    rw [e 94 (by decide)]
    exact a8
  · show cR_so A' sd cl
    unfold cR_so
    rw [e 118 (by decide), e 119 (by decide), e 120 (by decide), e 121 (by decide)]
    exact a11
theorem cR_L_end {P0 P : kx_P} {M : Nat → Int32} {A : Nat → Nat → Int32} {L : Nat → Nat → Int64} {cl mi sd se sz : Nat} {bl : Nat → Nat} (hm : cR_m M A L cl mi sd) (hmi : mi < 100000) (h : cR_L P0 P (ck_gs (M, ck_mgA (M, A, L) cl, L) cl) cl mi se sz bl cl) :
    ∃ Al : Nat → Int32, P 65 = kO 0 (kf cr0 Al) ∧ ∀ P2, P2 = kx_set P 65 (kO 0 (kf cr0 (upd Al 0 (nI (mi + 1))))) → cR_af P0 P2 (ck_mn (M, A, L) cl) cl (mi + 1) se sz bl := by
  obtain ⟨a0, a1, a2, a3, a4, a5, a6, a7, a8, a9, a10, a11, a12, ac, a13, a14⟩ := hm
  obtain ⟨g1, g2, g3⟩ := cR_mg (A := A) (L := L) (cl := cl) a3 hmi a6
  have e1 : ck_mn1 (M 1) = mi := by unfold ck_mn1; rw [a3]; exact nI_clamp (by omega)
  have hM0 : ∀ j, j ≠ 22 → j ≠ 51 → j ≠ 52 → j ≠ 47 → j ≠ 48 → (ck_gs (M, ck_mgA (M, A, L) cl, L) cl).1 j = M j := fun j h1 h2 h3 h4 h5 => ck_gs_M h1 h2 h3 h4 h5 cl
  have hA0 : ∀ q, (q < 108 ∨ 112 < q) → (q < 118 ∨ 121 < q) → q ≠ 123 → q ≠ 122 → (ck_gs (M, ck_mgA (M, A, L) cl, L) cl).2.1 q = A q := by
    intro q h1 h2 h3 h4
    have : ∀ n, (ck_gs (M, ck_mgA (M, A, L) cl, L) n).2.1 q = ck_mgA (M, A, L) cl q := by
      intro n
      induction n with
      | zero => rfl
      | succ n ih => rw [ck_gs, ck_go_A ⟨h1, h2, h3⟩, ih]
    rw [this cl, g1 q h4]
  have hmn : ck_mn (M, A, L) cl = (upd (ck_gs (M, ck_mgA (M, A, L) cl, L) cl).1 1 (nI (mi + 1)), (ck_gs (M, ck_mgA (M, A, L) cl, L) cl).2) := by
    unfold ck_mn
    try dsimp only
    rw [e1]
  rw [hmn]
  generalize ck_gs (M, ck_mgA (M, A, L) cl, L) cl = S at h hM0 hA0 ⊢
  obtain ⟨hst, hdy, hfx, hM1, hM49, hwo, hg, ⟨sd2, h22, hsd, hso⟩, -⟩ := h
  obtain ⟨p64, ⟨Al, p65, al0, al1, al3⟩, p66, p67, p68, p69, p70, ⟨F, p71, f4⟩, ⟨p72, p73, p74, p75⟩, p76, p77, p78, p79, p80, p81, p82, p83, p84, p85, p89, p90, p1, p2⟩ := hst
  refine ⟨Al, p65, fun P2 hP2 => ?_⟩
  have q : ∀ n, ¬ n = 65 → P2 n = P n := fun n hn => by rw [hP2, ks_ne hn]
  have m1 : upd S.1 1 (nI (mi + 1)) 1 = nI (mi + 1) := pk_us
  have mo : ∀ j, ¬ j = 1 → upd S.1 1 (nI (mi + 1)) j = S.1 j := fun j hj => pk_un hj
  unfold cR_af
  dsimp only
  refine ⟨sd2, ⟨?_, ?_, a2, m1, by omega, ?_, ?_, ?_, ?_, ?_, by omega, hso, fun i hi => (hg i hi).1, fun i hi => Nat.le_succ_of_le (hg i hi).2, ?_, ?_⟩, ?_, ?_, fun n hn => (q n (by omega)).trans (hfx n hn)⟩
  · rw [mo 12 (by omega), mo 13 (by omega), mo 59 (by omega), mo 60 (by omega), hM0 12 (by decide) (by decide) (by decide) (by decide) (by decide), hM0 13 (by decide) (by decide) (by decide) (by decide) (by decide), hM0 59 (by decide) (by decide) (by decide) (by decide) (by decide), hM0 60 (by decide) (by decide) (by decide) (by decide) (by decide)]
    exact a0
  · rw [mo 21 (by omega), hM0 21 (by decide) (by decide) (by decide) (by decide) (by decide)]; exact a1
  · rw [mo 3 (by omega), hM0 3 (by decide) (by decide) (by decide) (by decide) (by decide)]; exact a5
  · rw [mo 49 (by omega)]; exact hM49
  · rw [mo 5 (by omega), hM0 5 (by decide) (by decide) (by decide) (by decide) (by decide)]; exact a7
  · unfold ck_wo
    rw [mo 2 (by omega)]
    exact hwo
  · rw [mo 22 (by omega)]; exact h22
  · rw [mo 71 (by omega), hM0 71 (by decide) (by decide) (by decide) (by decide) (by decide), hA0 131 (by omega) (by omega) (by decide) (by decide), hA0 132 (by omega) (by omega) (by decide) (by decide)]; exact a13
  · rw [mo 80 (by omega), hM0 80 (by decide) (by decide) (by decide) (by decide) (by decide), hA0 135 (by omega) (by omega) (by decide) (by decide)]; exact a14
  · unfold cR_st cx_SR
    rw [q 64 (by omega), q 66 (by omega), q 67 (by omega), q 68 (by omega), q 69 (by omega), q 70 (by omega), q 71 (by omega), q 72 (by omega), q 73 (by omega), q 74 (by omega), q 75 (by omega), q 76 (by omega), q 77 (by omega), q 78 (by omega), q 79 (by omega), q 80 (by omega), q 81 (by omega), q 82 (by omega), q 83 (by omega), q 84 (by omega), q 85 (by omega), q 86 (by omega), q 87 (by omega), q 88 (by omega), q 89 (by omega), q 90 (by omega), q 91 (by omega), q 92 (by omega), q 1 (by omega), q 2 (by omega)]
    rw [mo 5 (by omega), mo 14 (by omega), mo 21 (by omega), mo 59 (by omega), mo 60 (by omega), mo 3 (by omega), mo 2 (by omega), mo 22 (by omega), mo 71 (by omega), mo 80 (by omega), m1]
    exact ⟨p64, ⟨upd Al 0 (nI (mi + 1)), by rw [hP2, ks_eq], pk_us, by rw [pk_un (by decide)]; exact al1, by rw [pk_un (by decide)]; exact al3⟩, p66, p67, p68, p69, p70, ⟨F, p71, f4⟩, ⟨p72, p73, p74, p75⟩, p76, p77, p78, p79, p80, p81, p82, p83, p84, p85, p89, p90, p1, p2⟩
  · obtain ⟨hB, hc, hsp, hno, hnn⟩ := hdy
    refine ⟨hB, fun i hi => ?_, fun h0 => ?_, fun h0 => ?_, fun n hn => ?_⟩
    · have hci : cR_c P S.2.1 S.2.2 i (bl (8 + i)) (bl i) (if i < cl then mi + 1 else mi) := hc i hi
      rw [if_pos hi] at hci
      have b4 := hB.w a2 hi
      have b5 := hB.c a2 hi
      exact cR_c_fr hci (hg i hi).1.1.1 (fun n hn => q n (by omega)) (cR_ag.rf _ i) rfl
    · obtain ⟨V9, T9, Q9, Fo9, St9, S9, hw9⟩ := hsp h0
      have b4 := hB.s h0
      exact ⟨V9, T9, Q9, Fo9, St9, S9, cR_w_fr hw9 (fun n n1 n2 => q n (by omega))⟩
    · have b4 := hB.n h0
      rw [q _ (by omega)]
      exact hno h0
    · have := hB.1
      rw [q n (by omega)]
      exact hnn n hn

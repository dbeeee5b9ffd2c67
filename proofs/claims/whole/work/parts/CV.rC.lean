/-! EACH CALL, both ways: clock, refit -/
theorem cR_m.rd {M M2 : Nat → Int32} {A A2 : Nat → Nat → Int32} {L L2 : Nat → Nat → Int64} {cl c2 mi sd : Nat} (h : cR_m M A L cl mi sd) (hc : cl ≤ c2) (hc8 : c2 ≤ 8) (e21 : M2 21 = nI c2) (eM : ∀ j, j = 1 ∨ j = 2 ∨ j = 3 ∨ j = 22 ∨ j = 49 ∨ j = 59 ∨ j = 60 ∨ j = 71 ∨ j = 80 → M2 j = M j) (e5 : M2 5 = 0) (e12 : ∃ c0 : Nat, M2 12 = nI c0) (e13 : ∃ w0 : Nat, M2 13 = nI w0)
    (eA : ∀ k, k = 94 ∨ (118 ≤ k ∧ k ≤ 121) ∨ (130 ≤ k ∧ k ≤ 136) → A2 k = A k) (hg : ∀ i, i < c2 → cR_g A2 L2 i) (ha : ∀ i, i < c2 → (A2 114 i).toNatClampNeg ≤ mi) : cR_m M2 A2 L2 c2 mi sd := by
  obtain ⟨⟨-, -, kx, ky, -, -, b1, b2, b3, b4⟩, a21, a2, a1, a4, a3, a49, -, awo, a22, a10, aso, -, -, a13, a14⟩ := h
  obtain ⟨c0, e12⟩ := e12
  obtain ⟨w0, e13⟩ := e13
  refine ⟨⟨c0, w0, kx, ky, e12, e13, b1, b2, (eM 59 (by omega)).trans b3, (eM 60 (by omega)).trans b4⟩, e21, hc8, (eM 1 (by omega)).trans a1, a4, by rw [eM 3 (by omega)]; exact a3, (eM 49 (by omega)).trans a49, ⟨0, by decide, e5⟩, ?_, (eM 22 (by omega)).trans a22, a10, ?_, hg, ha, ?_, ?_⟩
  · unfold ck_wo at awo ⊢
    rw [eM 2 (by omega), eA 94 (by omega)]
    exact awo
  · intro i h1 h2
    rw [eA 118 (by omega), eA 119 (by omega), eA 120 (by omega), eA 121 (by omega)]
    obtain ⟨ci, nn, a, q1, q2⟩ := aso i h1 h2
    exact ⟨ci, nn, a, by omega, q2⟩
  · rw [eM 71 (by omega), eA 131 (by omega), eA 132 (by omega)]; exact a13
  · rw [eM 80 (by omega), eA 135 (by omega)]; exact a14
theorem ck_rdM_o {M : Nat → Int32} {n : Nat} {Q : ck_Qt} {j : Nat} (h : ¬ (6 ≤ j ∧ j ≤ 15)) : ck_rdM M n Q j = M j := by
  unfold ck_rdM
  rw [pk_un (by omega)]
  dsimp only [ck_pM]
  rw [if_neg (by omega), if_neg (by omega), if_neg (by omega), if_neg (by omega), if_neg (by omega)]
  dsimp only [ck_qM]
  rw [if_neg (by omega), if_neg (by omega), if_neg (by omega), pk_un (by omega)]
theorem ck_rdM_12 {M : Nat → Int32} {n : Nat} {Q : ck_Qt} : ck_rdM M n Q 12 = nI Q.1.2.2.2.2.1 := by
  unfold ck_rdM
  rw [pk_un (by decide)]
  dsimp only [ck_pM]
  rw [if_neg (by decide), if_neg (by decide), if_neg (by decide), if_neg (by decide), if_pos rfl]
theorem ck_rdM_13 {M : Nat → Int32} {n : Nat} {Q : ck_Qt} : ck_rdM M n Q 13 = nI Q.2.2.1 := by
  unfold ck_rdM
  rw [pk_un (by decide)]
  dsimp only [ck_pM]
  rw [if_neg (by decide), if_neg (by decide), if_neg (by decide), if_neg (by decide), if_neg (by decide)]
  dsimp only [ck_qM]
  rw [if_neg (by decide), if_pos rfl]
theorem ck_rdM_14 {M : Nat → Int32} {n : Nat} {Q : ck_Qt} : ck_rdM M n Q 14 = Q.1.2.1 := pk_us
theorem ck_rdA_o {A : Nat → Nat → Int32} {Q : ck_Qt} {k : Nat} (h : ¬ (96 ≤ k ∧ k ≤ 99)) : ck_rdA A Q k = A k := by
  unfold ck_rdA
  dsimp only [ck_pA]
  rw [if_neg (by omega), if_neg (by omega)]
  dsimp only [ck_qA]
  rw [if_neg (by omega), if_neg (by omega)]
/-- where a text is read to: the works at w in the world B, next name s2 -/
def cSP (P : kx_P) (sz cl : Nat) (bl : Nat → Nat) (B : kx_P) (w s2 : Nat) : Prop :=
  144 ≤ w ∧ w + 6 ≤ s2 ∧ sz ≤ s2 ∧ (∀ n, n < w ∨ w + 6 ≤ n → B n = P n) ∧ (∃ S, B (w + 5) = kI 0 64 S) ∧ cR_B (fun p => if p = 16 then w else bl p) cl s2 ∧ (∀ n, s2 ≤ n → P n = none)
theorem cSP_r {P : kx_P} {sz : Nat} {S : ck_S} {cl mi se : Nat} {bl : Nat → Nat} (h : cI P sz S cl mi se bl) (hb : ¬ bl 16 = 0) : cSP P sz cl bl P (bl 16) sz := by
  obtain ⟨sd, hm, hst, ⟨hB, hc, hsp, hno, hnn⟩, -⟩ := h
  obtain ⟨V, T, Q, Fo, St, S, hw⟩ := hsp hb
  have e : (fun p => if p = 16 then bl 16 else bl p) = bl := by
    funext p
    by_cases h : p = 16
    · rw [if_pos h, h]
    · rw [if_neg h]
  have d := hB.s hb
  exact ⟨d.1, d.2, Nat.le_refl _, fun _ _ => rfl, ⟨S, hw.2.2.2.2.2⟩, by rw [e]; exact hB, hnn⟩
theorem cSP_n {P : kx_P} {sz : Nat} {S : ck_S} {cl mi se : Nat} {bl : Nat → Nat} (h : cI P sz S cl mi se bl) : cSP P sz cl bl (cx_nw P sz) sz (sz + 6) := by
  obtain ⟨sd, hm, hst, ⟨hB, hc, hsp, hno, hnn⟩, -⟩ := h
  exact ⟨hB.1, Nat.le_refl _, by omega, fun n hn => cx_nw_o hn, ⟨_, cx_nw_a.2.2.2.2.2⟩, hB.add ⟨by decide, by decide⟩ (Nat.le_refl _), fun n hn => hnn n (by omega)⟩
/-- the world behind a text read -/
theorem cSP_rw {P B : kx_P} {sz cl w s2 : Nat} {bl : Nat → Nat} {V te qu Fo st F : Nat → Int32} {X X1 : Option kx_C} (h : cSP P sz cl bl B w s2) :
    (∃ S, cR_w (cx_rw (kx_set B 64 X1) w V te qu Fo st F X) w V te qu Fo st S) ∧ ∀ n, ¬ n = 64 → ¬ n = 68 → (n < w ∨ w + 6 ≤ n) → cx_rw (kx_set B 64 X1) w V te qu Fo st F X n = P n := by
  obtain ⟨h1, h2, h3, h4, ⟨S, h5⟩, -, -⟩ := h
  refine ⟨⟨S, cx_rw_w h1, cx_rw_1 h1, cx_rw_2 h1, cx_rw_3 h1, cx_rw_4 h1, ?_⟩, fun n n1 n2 n3 => ?_⟩
  · rw [cx_rw_o (by omega) (by omega) (by omega), ks_ne (by omega)]
    exact h5
  · rw [cx_rw_o n1 n2 (by omega), ks_ne n1]
    exact h4 n n3
/-- the class's world, made anew in some cells -/
theorem cI_new {P P2 : kx_P} {sz s9 : Nat} {M M2 : Nat → Int32} {A A2 : Nat → Nat → Int32} {L L2 : Nat → Nat → Int64} {cl c2 mi se : Nat} {bl b2 : Nat → Nat} (h : cI P sz (M, A, L) cl mi se bl) (D : Nat → Prop) (hD : ∀ n, D n → n = 64 ∨ n = 68 ∨ n = 69 ∨ 144 ≤ n) (o : ∀ n, ¬ D n → P2 n = P n)
    (hm2 : ∀ sd, cR_m M A L cl mi sd → cR_m M2 A2 L2 c2 mi sd) (e64 : ∃ K : Nat → Int32, P2 64 = kO 10 (kf (cr10 (cR_sv (b2 16))) K) ∧ K 2 = M2 5 ∧ K 5 = M2 14 ∧ K 7 = M2 21 ∧ K 10 = M2 59 ∧ K 11 = M2 60) (e68 : ∃ (t x : Value) (F : Nat → Int32), P2 68 = kO 8 (kf (cr8 t x) F)) (e69 : P2 69 = kR 8 (fun i => if i < c2 then some (b2 (8 + i)) else none))
    (eM : ∀ j, j = 1 ∨ j = 2 ∨ j = 3 ∨ j = 22 ∨ j = 71 ∨ j = 80 → M2 j = M j) (eA : ∀ k, k = 94 ∨ k = 95 ∨ (118 ≤ k ∧ k ≤ 121) ∨ (130 ≤ k ∧ k ≤ 136) → A2 k = A k) (hB : cR_B b2 c2 s9)
    (hcc : ∀ i, i < c2 → cR_c P2 A2 L2 i (b2 (8 + i)) (b2 i) mi) (hsp : ¬ b2 16 = 0 → ∃ V T Q Fo St S : Nat → Int32, cR_w P2 (b2 16) V T Q Fo St S) (h17 : b2 17 = bl 17) (hno : ¬ bl 17 = 0 → ¬ D (bl 17)) (hnn : ∀ n, s9 ≤ n → P2 n = none) : cR_af P P2 (M2, A2, L2) c2 mi se s9 b2 := by
  obtain ⟨sd, hm, hst, ⟨hB0, -, -, hno0, -⟩, -⟩ := h
  have q : ∀ n, ¬ (n = 64 ∨ n = 68 ∨ n = 69 ∨ 144 ≤ n) → P2 n = P n := fun n hn => o n (fun z => hn (hD n z))
  refine ⟨sd, hm2 sd hm, ?_, ⟨hB, hcc, hsp, fun h0 => ?_, hnn⟩, fun n hn => q n (by omega)⟩
  · show cR_st P2 M2 A2 c2 se b2
    obtain ⟨p64, p65, p66, p67, p68, p69, p70, p71, p72, p76, p77, p78, p79, p80, p81, p82, p83, p84, p85, p89, p90, p1, p2⟩ := id hst
    unfold cR_st
    unfold cx_SR at p72 ⊢
    rw [h17, q 65 (by omega), q 66 (by omega), q 67 (by omega), q 70 (by omega), q 71 (by omega), q 72 (by omega), q 73 (by omega), q 74 (by omega), q 75 (by omega), q 76 (by omega), q 77 (by omega), q 78 (by omega), q 79 (by omega), q 80 (by omega), q 81 (by omega), q 82 (by omega), q 83 (by omega), q 84 (by omega), q 85 (by omega), q 86 (by omega), q 87 (by omega), q 88 (by omega), q 89 (by omega), q 90 (by omega), q 91 (by omega), q 92 (by omega), q 1 (by omega), q 2 (by omega)]
    rw [eM 1 (by omega), eM 2 (by omega), eM 3 (by omega), eM 22 (by omega), eM 71 (by omega), eM 80 (by omega)]
    rw [eA 94 (by omega), eA 95 (by omega), eA 118 (by omega), eA 119 (by omega), eA 120 (by omega), eA 121 (by omega), eA 130 (by omega), eA 131 (by omega), eA 132 (by omega), eA 133 (by omega), eA 134 (by omega), eA 135 (by omega), eA 136 (by omega)]
    exact ⟨e64, p65, p66, p67, e68, e69, p70, p71, p72, p76, p77, p78, p79, p80, p81, p82, p83, p84, p85, p89, p90, p1, p2⟩
  · show ∃ N : Nat → Int32, P2 (b2 17) = kI 0 39973 N ∧ ∀ i, i < 39973 → ∃ e : Nat, N i = nI e ∧ e < 64 * (se + 1)
    rw [h17] at h0 ⊢
    rw [o _ (hno h0)]
    exact hno0 h0
theorem cR_sv_r {w : Nat} (h : 144 ≤ w) : cR_sv w = .ref w := by unfold cR_sv; rw [if_neg (by omega)]
/-- behind a text with a fault -/
theorem cI_k1 {P B P2 : kx_P} {sz w s2 s9 n : Nat} {M M1 : Nat → Int32} {A : Nat → Nat → Int32} {L : Nat → Nat → Int64} {cl mi se : Nat} {bl : Nat → Nat} {K : Nat → Int32} {T : Nat → Int32} {R : ck_Qt} {r : Option Value} (h : cI P sz (M, A, L) cl mi se bl) (hS : cSP P sz cl bl B w s2)
    (k7 : K 7 = M 21) (k10 : K 10 = M 59) (k11 : K 11 = M 60) (eM : ∀ j, ¬ j = 0 → ¬ j = 5 → ¬ j = 14 → M1 j = M j) (e5 : M1 5 = 0) (hRS : cx_RS B K w T n R s2 r P2 s9) : s9 = s2 ∧ cR_af P P2 (ck_rdM M1 n R, ck_rdA A R, L) cl mi se s2 (fun p => if p = 16 then w else bl p) := by
  obtain ⟨F, V, te, qu, Fo, st, -, h2, h3, -, -⟩ := hRS
  refine ⟨h2, ?_⟩
  obtain ⟨⟨S, hw⟩, ho⟩ := cSP_rw (V := V) (te := te) (qu := qu) (Fo := Fo) (st := st) (F := F) (X := kO 10 (kf (cr10 (.ref w)) (upd (upd K 2 0) 5 R.1.2.1))) (X1 := kO 10 (kf (cr10 (.ref w)) (upd K 2 0))) hS
  have e64 : P2 64 = kO 10 (kf (cr10 (.ref w)) (upd (upd K 2 0) 5 R.1.2.1)) := by rw [h3]; exact cx_rw_64
  have e68 : P2 68 = kO 8 (kf (cr8 (.ref 67) (.ref w)) F) := by rw [h3]; exact cx_rw_68
  rw [← h3] at hw ho
  clear h3
  obtain ⟨g1, g2, g3, g4, g5, hB, hnn⟩ := hS
  obtain ⟨sd, hm, hst, ⟨hB0, hc, -, -, -⟩, -⟩ := id h
  have hcl : cl ≤ 8 := hm.2.2.1
  have hn16 : ¬ (fun p => if p = 16 then w else bl p) 16 = 0 := by show ¬ (if 16 = 16 then w else bl 16) = 0; rw [if_pos rfl]; omega
  have eg : ∀ i, cR_ag A (ck_rdA A R) i := fun i => ⟨fun k hk => by rw [ck_rdA_o (by omega)], fun j _ => by rw [ck_rdA_o (by decide)], fun j _ => by rw [ck_rdA_o (by decide)], fun j _ => ⟨by rw [ck_rdA_o (by decide)], by rw [ck_rdA_o (by decide)]⟩, fun j _ => by rw [ck_rdA_o (by decide)]⟩
  have hg := hm.2.2.2.2.2.2.2.2.2.2.2.2.1
  have hac := hm.2.2.2.2.2.2.2.2.2.2.2.2.2.1
  have dw : ∀ i, i < cl → (bl i + 6 ≤ w ∨ w + 6 ≤ bl i) ∧ (bl (8 + i) + 2 ≤ w ∨ w + 6 ≤ bl (8 + i)) ∧ 144 ≤ bl i ∧ 144 ≤ bl (8 + i) := fun i hi => by
    have d1 := hB.sw hcl hi hn16
    have d2 := hB.sc hcl hi hn16
    have d3 := hB0.w hcl hi
    have d4 := hB0.c hcl hi
    try dsimp only at d1 d2
    rw [if_pos rfl, if_neg (by omega)] at d1 d2
    exact ⟨d1, d2, d3.2.1, d4.2.1⟩
  refine cI_new h (fun q => q = 64 ∨ q = 68 ∨ (w ≤ q ∧ q < w + 6)) (fun q hq => by omega) (fun q hq => ho q (fun z => hq (Or.inl z)) (fun z => hq (Or.inr (Or.inl z))) (by omega)) (fun sd8 hm8 => ?_) ⟨upd (upd K 2 0) 5 R.1.2.1, ?_, ?_, ?_, ?_, ?_, ?_⟩ ⟨_, _, _, e68⟩ ?_ (fun j hj => ?_) (fun k hk => ck_rdA_o (by omega)) hB (fun i hi => ?_) (fun _ => ?_) (if_neg (by decide)) (fun h0 => ?_) (fun q hq => ?_)
  · exact cR_m.rd hm8 (Nat.le_refl _) hcl ((ck_rdM_o (by decide)).trans ((eM 21 (by decide) (by decide) (by decide)).trans hm8.2.1)) (fun j hj => (ck_rdM_o (by omega)).trans (eM j (by omega) (by omega) (by omega))) ((ck_rdM_o (by decide)).trans e5) ⟨_, ck_rdM_12⟩ ⟨_, ck_rdM_13⟩ (fun k hk => ck_rdA_o (by omega)) (fun i hi => cR_g_ag (hg i hi) (eg i) rfl) (fun i hi => by rw [ck_rdA_o (by decide)]; exact hac i hi)
  · show P2 64 = kO 10 (kf (cr10 (cR_sv (if 16 = 16 then w else bl 16))) (upd (upd K 2 0) 5 R.1.2.1))
    rw [if_pos rfl, cR_sv_r g1]
    exact e64
  · rw [pk_un (by decide), pk_us, ck_rdM_o (by decide)]; exact e5.symm
  · rw [pk_us, ck_rdM_14]
  · rw [pk_un (by decide), pk_un (by decide), ck_rdM_o (by decide), eM 21 (by decide) (by decide) (by decide)]; exact k7
  · rw [pk_un (by decide), pk_un (by decide), ck_rdM_o (by decide), eM 59 (by decide) (by decide) (by decide)]; exact k10
  · rw [pk_un (by decide), pk_un (by decide), ck_rdM_o (by decide), eM 60 (by decide) (by decide) (by decide)]; exact k11
  · have e9 : (fun i => if i < cl then some ((fun p => if p = 16 then w else bl p) (8 + i)) else none) = (fun i => if i < cl then some (bl (8 + i)) else none) := by
      funext i
      by_cases hi : i < cl
      · rw [if_pos hi, if_pos hi]
        show some (if 8 + i = 16 then w else bl (8 + i)) = _
        rw [if_neg (by omega)]
      · rw [if_neg hi, if_neg hi]
    rw [e9, ho 69 (by decide) (by decide) (by omega)]
    exact hst.2.2.2.2.2.1
  · exact (ck_rdM_o (by omega)).trans (eM j (by omega) (by omega) (by omega))
  · obtain ⟨d1, d2, d3, d4⟩ := dw i hi
    show cR_c P2 (ck_rdA A R) L i (if 8 + i = 16 then w else bl (8 + i)) (if i = 16 then w else bl i) mi
    rw [if_neg (by omega), if_neg (by omega)]
    exact cR_c_fr (hc i hi) (hg i hi).1.1 (fun q hq => ho q (by omega) (by omega) (by omega)) (eg i) rfl
  · show ∃ V T Q Fo St S : Nat → Int32, cR_w P2 (if 16 = 16 then w else bl 16) V T Q Fo St S
    rw [if_pos rfl]
    exact ⟨_, _, _, _, _, _, hw⟩
  · have d := hB.sn hn16 (show ¬ (if 17 = 16 then w else bl 17) = 0 by rw [if_neg (by decide)]; exact h0)
    have d2 := hB0.n h0
    try dsimp only at d
    rw [if_pos rfl, if_neg (by decide)] at d
    omega
  · rw [ho q (by omega) (by omega) (by omega)]
    exact hnn q hq
theorem cR_ag_n {A A2 : Nat → Nat → Int32} {c i w cd : Nat} {t e C N : Nat → Int32} (hi : ¬ i = c) (a102 : A2 102 = ck_put (A 102) t (16 * c) 16) (a104 : A2 104 = ck_put (A 104) e (24 * c) w) (hw : w ≤ 24) (a106 : A2 106 = ck_put (A 106) C (400 * c) cd) (a107 : A2 107 = ck_put (A 107) N (400 * c) cd) (hcd : cd ≤ 400) (a122 : A2 122 = A 122)
    (ho : ∀ k, (100 ≤ k ∧ k ≤ 117 ∧ k ≠ 102 ∧ k ≠ 104 ∧ k ≠ 106 ∧ k ≠ 107) → A2 k i = A k i) : cR_ag A A2 i :=
  ⟨ho, fun j hj => by rw [a102]; exact ck_put_o (by omega), fun j hj => by rw [a104]; exact ck_put_o (by omega), fun j hj => ⟨by rw [a106]; exact ck_put_o (by omega), by rw [a107]; exact ck_put_o (by omega)⟩, fun j _ => by rw [a122]⟩
/-- what is new of the blocks: a clock more -/
def cbC (bl : Nat → Nat) (cl w s : Nat) : Nat → Nat := fun p => if p = cl then w else if p = 8 + cl then s else if p = 16 then 0 else bl p
theorem cbC_c {bl : Nat → Nat} {cl w s : Nat} : cbC bl cl w s cl = w := if_pos rfl
theorem cbC_8 {bl : Nat → Nat} {cl w s : Nat} : cbC bl cl w s (8 + cl) = s := by unfold cbC; rw [if_neg (by omega), if_pos rfl]
theorem cbC_16 {bl : Nat → Nat} {cl w s : Nat} (h : cl < 8) : cbC bl cl w s 16 = 0 := by unfold cbC; rw [if_neg (by omega), if_neg (by omega), if_pos rfl]
theorem cbC_o {bl : Nat → Nat} {cl w s p : Nat} (h1 : ¬ p = cl) (h2 : ¬ p = 8 + cl) (h3 : ¬ p = 16) : cbC bl cl w s p = bl p := by unfold cbC; rw [if_neg h1, if_neg h2, if_neg h3]
theorem cR_B.clk {bl b : Nat → Nat} {cl w s2 : Nat} (h : cR_B b cl s2) (e16 : b 16 = w) (eo : ∀ p, ¬ p = 16 → b p = bl p) (hw : 144 ≤ w) (hcl : cl < 8) : cR_B (cbC bl cl w s2) (cl + 1) (s2 + 2) := by
  obtain ⟨g0, g1, g2, g3⟩ := h
  have key : ∀ p, p < 18 → ¬ cbC bl cl w s2 p = 0 → ¬ p = 8 + cl → ∃ q, q < 18 ∧ cbC bl cl w s2 p = b q ∧ cR_len q = cR_len p ∧ (q = 16 ↔ p = cl) ∧ (¬ p = cl → q = p) := by
    intro p hp h0 h8
    by_cases e : p = cl
    · subst e
      exact ⟨16, by decide, by rw [cbC_c, e16], (cR_len_w hcl).symm, ⟨fun _ => rfl, fun _ => rfl⟩, fun z => absurd rfl z⟩
    · have e2 : ¬ p = 16 := fun z => by rw [z, cbC_16 hcl] at h0; exact h0 rfl
      exact ⟨p, hp, by rw [cbC_o e h8 e2, eo p e2], rfl, ⟨fun z => absurd z e2, fun z => absurd z e⟩, fun _ => rfl⟩
  have l8 : cR_len (8 + cl) = 2 := cR_len_c hcl
  refine ⟨by omega, fun p hp h0 => ?_, fun p q hp hq hpq h1 h2 => ?_, fun i hi => ?_⟩
  · by_cases h8 : p = 8 + cl
    · subst h8
      rw [cbC_8, l8]
      exact ⟨g0, Nat.le_refl _⟩
    · obtain ⟨q, q1, q2, q3, -⟩ := key p hp h0 h8
      rw [q2] at h0 ⊢
      have := g1 q q1 h0
      omega
  · by_cases p8 : p = 8 + cl
    · subst p8
      obtain ⟨q', q1, q2, q3, -⟩ := key q hq h2 (fun z => hpq z.symm)
      rw [q2] at h2 ⊢
      have := g1 q' q1 h2
      rw [cbC_8]
      omega
    · obtain ⟨p', p1, p2, p3, p4, p5⟩ := key p hp h1 p8
      by_cases q8 : q = 8 + cl
      · subst q8
        rw [p2] at h1 ⊢
        have := g1 p' p1 h1
        rw [cbC_8]
        omega
      · obtain ⟨q', q1, q2, q3, q4, q5⟩ := key q hq h2 q8
        rw [p2] at h1 ⊢
        rw [q2] at h2 ⊢
        rw [← p3, ← q3]
        refine g2 p' q' p1 q1 (fun z => ?_) h1 h2
        by_cases ep : p = cl
        · have := p4.mpr ep
          have := q4.mp (z.symm.trans this)
          omega
        · by_cases eq : q = cl
          · have := q4.mpr eq
            have := p4.mp (z.trans this)
            omega
          · have := p5 ep
            have := q5 eq
            omega
  · by_cases e : i = cl
    · subst e
      rw [cbC_c, cbC_8]
      refine ⟨⟨fun _ => by omega, fun _ => by omega⟩, ⟨fun _ => by omega, fun _ => by omega⟩⟩
    · rw [cbC_o (by omega) (by omega) (by omega), cbC_o (by omega) (by omega) (by omega)]
      have := g3 i hi
      rw [eo i (by omega), eo (8 + i) (by omega)] at this
      refine ⟨⟨fun z => by have := this.1.mp z; omega, fun z => this.1.mpr (by omega)⟩, ⟨fun z => by have := this.2.mp z; omega, fun z => this.2.mpr (by omega)⟩⟩
/-- a clock refitted: its works and the spare ones change places -/
def cbR (bl : Nat → Nat) (c w : Nat) : Nat → Nat := fun p => if p = c then w else if p = 16 then bl c else bl p
theorem cbR_c {bl : Nat → Nat} {c w : Nat} : cbR bl c w c = w := if_pos rfl
theorem cbR_16 {bl : Nat → Nat} {c w : Nat} (h : c < 8) : cbR bl c w 16 = bl c := by unfold cbR; rw [if_neg (by omega), if_pos rfl]
theorem cbR_o {bl : Nat → Nat} {c w p : Nat} (h1 : ¬ p = c) (h3 : ¬ p = 16) : cbR bl c w p = bl p := by unfold cbR; rw [if_neg h1, if_neg h3]
theorem cR_B.ref {bl b : Nat → Nat} {cl c w s2 : Nat} (h : cR_B b cl s2) (e16 : b 16 = w) (eo : ∀ p, ¬ p = 16 → b p = bl p) (hw : 144 ≤ w) (hc : c < cl) (hcl : cl ≤ 8) : cR_B (cbR bl c w) cl s2 := by
  obtain ⟨g0, g1, g2, g3⟩ := h
  have key : ∀ p, p < 18 → ∃ q, q < 18 ∧ cbR bl c w p = b q ∧ cR_len q = cR_len p ∧ (q = 16 ↔ p = c) ∧ (q = c ↔ p = 16) ∧ (¬ p = c → ¬ p = 16 → q = p) := by
    intro p hp
    by_cases e : p = c
    · subst e
      exact ⟨16, by decide, by rw [cbR_c, e16], (cR_len_w (by omega)).symm, ⟨fun _ => rfl, fun _ => rfl⟩, ⟨fun z => by omega, fun z => by omega⟩, fun z => absurd rfl z⟩
    · by_cases e2 : p = 16
      · subst e2
        exact ⟨c, by omega, by rw [cbR_16 (by omega), eo c (by omega)], cR_len_w (by omega), ⟨fun z => by omega, fun z => by omega⟩, ⟨fun _ => rfl, fun _ => rfl⟩, fun _ z => absurd rfl z⟩
      · exact ⟨p, hp, by rw [cbR_o e e2, eo p e2], rfl, ⟨fun z => absurd z e2, fun z => absurd z e⟩, ⟨fun z => absurd z e, fun z => absurd z e2⟩, fun _ _ => rfl⟩
  refine ⟨g0, fun p hp h0 => ?_, fun p q hp hq hpq h1 h2 => ?_, fun i hi => ?_⟩
  · obtain ⟨q, q1, q2, q3, -⟩ := key p hp
    rw [q2] at h0 ⊢
    have := g1 q q1 h0
    omega
  · obtain ⟨p', p1, p2, p3, p4, p5, p6⟩ := key p hp
    obtain ⟨q', q1, q2, q3, q4, q5, q6⟩ := key q hq
    rw [p2] at h1 ⊢
    rw [q2] at h2 ⊢
    rw [← p3, ← q3]
    refine g2 p' q' p1 q1 (fun z => ?_) h1 h2
    by_cases ep : p = c
    · have a := p4.mpr ep
      have b := q4.mp (z.symm.trans a)
      omega
    · by_cases ep2 : p = 16
      · have a := p5.mpr ep2
        have b := q5.mp (z.symm.trans a)
        omega
      · have a := p6 ep ep2
        by_cases eq : q = c
        · have b := q4.mpr eq
          omega
        · by_cases eq2 : q = 16
          · have b := q5.mpr eq2
            omega
          · have b := q6 eq eq2
            omega
  · have t := g3 i hi
    rw [eo i (by omega), eo (8 + i) (by omega)] at t
    by_cases e : i = c
    · subst e
      rw [cbR_c, cbR_o (by omega) (by omega)]
      exact ⟨⟨fun _ => hc, fun _ => by omega⟩, t.2⟩
    · rw [cbR_o e (by omega), cbR_o (by omega) (by omega)]
      exact t
def ck_kA (M : Nat → Int32) (A : Nat → Nat → Int32) (R : ck_Qt) (c : Nat) (x y : Int32) (d : Nat) : Nat → Nat → Int32 :=
  va_up (va_up (va_up (va_up (va_up (va_up (va_up (va_up (ck_tk (va_up (va_up (ck_rdA A R) 100 (upd (A 100) c x)) 101 (upd (A 101) c y)) c R.2.2.1 R.1.2.2.2.2.1 R.2.2.2.1) 108 (upd (A 108) c (1440 * R.2.2.2.2.1 0))) 109 (upd (A 109) c (R.2.2.2.2.1 5))) 110 (upd (A 110) c (0))) 111 (upd (A 111) c (nI (ck_da (d / 1440) (ck_feb (M 3)))))) 112 (upd (A 112) c (nI (ck_mo (d / 1440) (ck_feb (M 3)))))) 113 (upd (A 113) c (nI d))) 114 (upd (A 114) c (nI d))) 115 (upd (A 115) c (0))
def ck_rA (A : Nat → Nat → Int32) (R : ck_Qt) (c : Nat) : Nat → Nat → Int32 :=
  va_up (va_up (va_up (ck_tk (ck_rdA A R) c R.2.2.1 R.1.2.2.2.2.1 R.2.2.2.1) 108 (upd (A 108) c (ck_mi3 (A 108 c) (1440 * R.2.2.2.2.1 0)))) 109 (upd (A 109) c (ck_mi4 (A 109 c) (R.2.2.2.2.1 5)))) 110 (upd (A 110) c 0)
/-- behind a new clock -/
theorem cI_k2 {P B P2 : kx_P} {sz w s2 s9 n : Nat} {M M1 : Nat → Int32} {A : Nat → Nat → Int32} {L : Nat → Nat → Int64} {cl mi se : Nat} {bl : Nat → Nat} {K Al : Nat → Int32} {T : Nat → Int32} {R : ck_Qt} {r : Option Value} (h : cI P sz (M, A, L) cl mi se bl) (hS : cSP P sz cl bl B w s2) (hcl : cl < 8)
    (k10 : K 10 = M 59) (k11 : K 11 = M 60) (al1 : Al 1 = M 3) (eM : ∀ j, ¬ j = 0 → ¬ j = 5 → ¬ j = 14 → M1 j = M j) (e5 : M1 5 = 0) (hb : R.1.2.1 = -1) (hv : cVe R) (ht : cVt R.2.2.2.2.1) (hvq : ck_vq R) {u v : Nat} (hu : u ≤ 99) (hv9 : v ≤ 99)
    (hCK : cx_CK B K cl (fun i => bl (8 + i)) w T n R Al (nI u) (nI v) mi s2 r P2 s9) : r = some (.int (nI cl)) ∧ s9 = s2 + 2 ∧ cR_af P P2 (upd (ck_rdM M1 n R) 21 (nI (cl + 1)), ck_kA M A R cl (nI u) (nI v) mi, va_up L 116 (vp_updL (L 116) cl 0)) (cl + 1) mi se (s2 + 2) (cbC bl cl w s2) := by
  obtain ⟨F, V, te, qu, Fo, st, hr, h2, hD9, h3⟩ := hCK
  refine ⟨hr, h2, ?_⟩
  obtain ⟨⟨S, hw⟩, ho⟩ := cSP_rw (V := V) (te := te) (qu := qu) (Fo := Fo) (st := st) (F := F) (X := kO 10 (kf (cr10 (.ref w)) (upd (upd K 2 0) 5 (-1)))) (X1 := kO 10 (kf (cr10 (.ref w)) (upd K 2 0))) hS
  have e68 : cx_rw (kx_set B 64 (kO 10 (kf (cr10 (.ref w)) (upd K 2 0)))) w V te qu Fo st F (kO 10 (kf (cr10 (.ref w)) (upd (upd K 2 0) 5 (-1)))) 68 = kO 8 (kf (cr8 (.ref 67) (.ref w)) F) := cx_rw_68
  generalize cx_rw (kx_set B 64 (kO 10 (kf (cr10 (.ref w)) (upd K 2 0)))) w V te qu Fo st F (kO 10 (kf (cr10 (.ref w)) (upd (upd K 2 0) 5 (-1)))) = P3 at hw ho e68 h3
  obtain ⟨g1, g2, g3, -, -, hB, hnn⟩ := hS
  obtain ⟨sd, hm, hst, ⟨hB0, hc, -, -, -⟩, -⟩ := id h
  have hmi : mi ≤ 100000 := hm.2.2.2.2.1
  have hn16 : ¬ (fun p => if p = 16 then w else bl p) 16 = 0 := by show ¬ (if 16 = 16 then w else bl 16) = 0; rw [if_pos rfl]; omega
  have hg := hm.2.2.2.2.2.2.2.2.2.2.2.2.1
  have hac := hm.2.2.2.2.2.2.2.2.2.2.2.2.2.1
  have q64 : P2 64 = kO 10 (kf (cr10 .null) (upd (upd (upd K 2 0) 5 (-1)) 7 (nI (cl + 1)))) := by rw [h3]; exact ks_eq _ _ _
  have q69 : P2 69 = kR 8 (va_up (fun i => if i < cl then some (bl (8 + i)) else none) cl (some s2)) := by rw [h3]; unfold cx_kw; rw [ks_ne (by decide), ks_eq]
  have qs : P2 s2 = kO 1 (kf (cr1 (.ref w) 0 (.ref (s2 + 1))) (cx_nc V Al (nI u) (nI v) mi)) := by rw [h3]; unfold cx_kw; rw [ks_ne (by omega), ks_ne (by omega), ks_ne (by omega), ks_eq]
  have qk : P2 (s2 + 1) = kI 0 1667 (ck_cp (fun _ => 0) (fun _ => -1) 1667) := by rw [h3]; unfold cx_kw; rw [ks_ne (by omega), ks_ne (by omega), ks_ne (by omega), ks_ne (by omega), ks_eq]
  have q68 : P2 68 = kO 8 (kf (cr8 (.ref 67) (.ref w)) F) := by rw [h3]; unfold cx_kw; rw [ks_ne (by decide), ks_ne (by decide), ks_ne (by decide), ks_ne (by omega), ks_ne (by omega)]; exact e68
  have qo3 : ∀ q, ¬ q = 64 → ¬ q = 69 → ¬ q = s2 → ¬ q = s2 + 1 → P2 q = P3 q := fun q n1 n2 n3 n4 => by rw [h3]; unfold cx_kw; rw [ks_ne n1, ks_ne n2, ks_ne n1, ks_ne n3, ks_ne n4]
  clear h3
  have qo : ∀ q, ¬ q = 64 → ¬ q = 68 → ¬ q = 69 → (q < w ∨ w + 6 ≤ q) → ¬ q = s2 → ¬ q = s2 + 1 → P2 q = P q := fun q n1 n2 n3 n4 n5 n6 => (qo3 q n1 n3 n5 n6).trans (ho q n1 n2 n4)
  have hw2 : cR_w P2 w V te qu Fo st S := cR_w_fr hw (fun q a b => qo3 q (by omega) (by omega) (by omega) (by omega))
  have dw : ∀ i, i < cl → (bl i + 6 ≤ w ∨ w + 6 ≤ bl i) ∧ (bl (8 + i) + 2 ≤ w ∨ w + 6 ≤ bl (8 + i)) ∧ (144 ≤ bl i ∧ bl i + 6 ≤ s2) ∧ 144 ≤ bl (8 + i) ∧ bl (8 + i) + 2 ≤ s2 := fun i hi => by
    have d1 := hB.sw (by omega) hi hn16
    have d2 := hB.sc (by omega) hi hn16
    have d3 := hB0.w (by omega) hi
    have d4 := hB0.c (by omega) hi
    try dsimp only at d1 d2
    rw [if_pos rfl, if_neg (by omega)] at d1 d2
    exact ⟨d1, d2, ⟨d3.2.1, by omega⟩, d4.2.1, by omega⟩
  obtain ⟨x, x0⟩ : ∃ x, x = nI u := ⟨_, rfl⟩
  obtain ⟨y, y0⟩ : ∃ y, y = nI v := ⟨_, rfl⟩
  rw [← x0, ← y0] at qs ⊢
  have a100 : ck_kA M A R cl x y mi 100 = upd (A 100) cl x := rfl
  have a101 : ck_kA M A R cl x y mi 101 = upd (A 101) cl y := rfl
  have a102 : ck_kA M A R cl x y mi 102 = ck_put (A 102) R.2.2.2.2.1 (16 * cl) 16 := rfl
  have a103 : ck_kA M A R cl x y mi 103 = upd (A 103) cl (nI R.2.2.1) := rfl
  have a104 : ck_kA M A R cl x y mi 104 = ck_put (A 104) R.2.2.2.2.2 (24 * cl) R.2.2.1 := rfl
  have a105 : ck_kA M A R cl x y mi 105 = upd (A 105) cl (nI R.1.2.2.2.2.1) := rfl
  have a106 : ck_kA M A R cl x y mi 106 = ck_put (A 106) R.1.2.2.2.2.2.1 (400 * cl) R.1.2.2.2.2.1 := rfl
  have a107 : ck_kA M A R cl x y mi 107 = ck_put (A 107) R.1.2.2.2.2.2.2 (400 * cl) R.1.2.2.2.2.1 := rfl
  have a108 : ck_kA M A R cl x y mi 108 = upd (A 108) cl (1440 * R.2.2.2.2.1 0) := rfl
  have a109 : ck_kA M A R cl x y mi 109 = upd (A 109) cl (R.2.2.2.2.1 5) := rfl
  have a110 : ck_kA M A R cl x y mi 110 = upd (A 110) cl 0 := rfl
  have a111 : ck_kA M A R cl x y mi 111 = upd (A 111) cl (nI (ck_da (mi / 1440) (ck_feb (M 3)))) := rfl
  have a112 : ck_kA M A R cl x y mi 112 = upd (A 112) cl (nI (ck_mo (mi / 1440) (ck_feb (M 3)))) := rfl
  have a113 : ck_kA M A R cl x y mi 113 = upd (A 113) cl (nI mi) := rfl
  have a114 : ck_kA M A R cl x y mi 114 = upd (A 114) cl (nI mi) := rfl
  have a115 : ck_kA M A R cl x y mi 115 = upd (A 115) cl 0 := rfl
  have a117 : ck_kA M A R cl x y mi 117 = upd (A 117) cl R.2.2.2.1 := rfl
  have ao : ∀ k, k = 94 ∨ k = 95 ∨ k = 116 ∨ (118 ≤ k ∧ k ≤ 136) → ck_kA M A R cl x y mi k = A k := by
    intro k hk
    unfold ck_kA
    rw [va_upn (by omega), va_upn (by omega), va_upn (by omega), va_upn (by omega), va_upn (by omega), va_upn (by omega), va_upn (by omega), va_upn (by omega), ck_tk_o ⟨by omega, by omega, by omega, by omega, by omega, by omega, by omega⟩, va_upn (by omega), va_upn (by omega), ck_rdA_o (by omega)]
  generalize ck_kA M A R cl x y mi = A2 at a100 a101 a102 a103 a104 a105 a106 a107 a108 a109 a110 a111 a112 a113 a114 a115 a117 ao ⊢
  obtain ⟨vq1, vq2, vq3⟩ := hvq
  have eg : ∀ i, ¬ i = cl → cR_ag A A2 i := fun i hi => cR_ag_n hi a102 a104 vq2 a106 a107 vq1 (ao 122 (by omega)) (fun k hk => by
    rcases (show k = 100 ∨ k = 101 ∨ k = 103 ∨ k = 105 ∨ k = 108 ∨ k = 109 ∨ k = 110 ∨ k = 111 ∨ k = 112 ∨ k = 113 ∨ k = 114 ∨ k = 115 ∨ k = 116 ∨ k = 117 by omega) with e | e | e | e | e | e | e | e | e | e | e | e | e | e
    · rw [e, a100]; exact pk_un hi
    · rw [e, a101]; exact pk_un hi
    · rw [e, a103]; exact pk_un hi
    · rw [e, a105]; exact pk_un hi
    · rw [e, a108]; exact pk_un hi
    · rw [e, a109]; exact pk_un hi
    · rw [e, a110]; exact pk_un hi
    · rw [e, a111]; exact pk_un hi
    · rw [e, a112]; exact pk_un hi
    · rw [e, a113]; exact pk_un hi
    · rw [e, a114]; exact pk_un hi
    · rw [e, a115]; exact pk_un hi
    · rw [e, ao 116 (by omega)]
    · rw [e, a117]; exact pk_un hi)
  have c102 : ∀ j, j < 16 → A2 102 (16 * cl + j) = R.2.2.2.2.1 j := fun j hj => by rw [a102]; exact ck_put_i hj
  have c117 : A2 117 cl = R.2.2.2.1 := by rw [a117]; exact pk_us
  have c103 : A2 103 cl = nI R.2.2.1 := by rw [a103]; exact pk_us
  have c104 : ∀ j, j < R.2.2.1 → A2 104 (24 * cl + j) = R.2.2.2.2.2 j := fun j hj => by rw [a104]; exact ck_put_i hj
  have c105 : A2 105 cl = nI R.1.2.2.2.2.1 := by rw [a105]; exact pk_us
  have c106 : ∀ j, j < R.1.2.2.2.2.1 → A2 106 (400 * cl + j) = R.1.2.2.2.2.2.1 j ∧ A2 107 (400 * cl + j) = R.1.2.2.2.2.2.2 j := fun j hj => ⟨by rw [a106]; exact ck_put_i hj, by rw [a107]; exact ck_put_i hj⟩
  have hnv := cR_new (A := A2) (c := cl) hD9 hv rfl vq1 rfl vq2 c102 c117 c103 c104 c105 c106
  obtain ⟨⟨run, rn1, rn2, rn3⟩, -, -, -, -, -, ⟨sk, sk1, sk2⟩, -, -⟩ := id ht
  have hdl : ck_dl (va_up L 116 (vp_updL (L 116) cl 0)) cl := ⟨0, by decide, by rw [va_us, pk_uLs]; rfl⟩
  have e1440 : (1440 : Int32) * R.2.2.2.2.1 0 = nI (1440 * run) := by rw [rn3, show (1440 : Int32) = nI 1440 from rfl, pk_mul]
  have hda := ck_da_le (d := mi / 1440) (by omega) (ck_feb_le (M 3))
  have hmo := ck_mo_le (mi / 1440) (ck_feb (M 3))
  have hng : cR_g A2 (va_up L 116 (vp_updL (L 116) cl 0)) cl := cR_newg hv ht rfl vq1 rfl vq2 c102 c117 c103 c104 c105 c106 (by rw [a110]; exact pk_us) ⟨1440 * run, run, rn3, rn2, by rw [a108, pk_us]; exact e1440, Nat.le_refl _⟩ ⟨sk, sk1, by rw [a109, pk_us]; exact sk2⟩ (by rw [a115, pk_us]; decide) ⟨mi, by rw [a113]; exact pk_us, hmi⟩ hdl ⟨_, hda.1, hda.2, by rw [a111]; exact pk_us⟩ ⟨_, hmo.1, by omega, by rw [a112]; exact pk_us⟩ ⟨u, v, hu, hv9, by rw [a100, pk_us]; exact x0, by rw [a101, pk_us]; exact y0⟩ ⟨mi, hmi, by rw [a114]; exact pk_us⟩
  have c114 : (A2 114 cl).toNatClampNeg = mi := by rw [a114, pk_us, nI_clamp (by omega)]
  have hcC : cR_C A2 cl (cx_nc V Al x y mi) := by
    obtain ⟨-, ⟨v0, -, -, -, -, -, v6, -⟩, -⟩ := hD9
    unfold cx_nc
    rw [al1]
    refine ⟨?_, ?_, ?_, ?_, ?_, ?_, fun _ => ?_, ?_, ?_⟩
    · rw [a100, pk_us, pk_un (by decide), pk_un (by decide), pk_un (by decide), pk_un (by decide), pk_un (by decide), pk_un (by decide), pk_us]
    · rw [a101, pk_us, pk_un (by decide), pk_un (by decide), pk_un (by decide), pk_un (by decide), pk_un (by decide), pk_us]
    · rw [a111, pk_us, pk_un (by decide), pk_us]
    · rw [a112, pk_us, pk_us]
    · rw [a108, pk_us, pk_un (by decide), pk_un (by decide), pk_un (by decide), pk_un (by decide), pk_us, v0]
    · rw [a109, pk_us, pk_un (by decide), pk_un (by decide), pk_un (by decide), pk_us, v6]
    · rw [a110, pk_us, pk_un (by decide), pk_un (by decide), pk_un (by decide), pk_un (by decide), pk_un (by decide), pk_un (by decide), pk_un (by decide), pk_un (by decide), pk_un (by decide)]
    · rw [a115, pk_us, pk_un (by decide), pk_un (by decide), pk_un (by decide), pk_un (by decide), pk_un (by decide), pk_un (by decide), pk_un (by decide), pk_un (by decide), pk_un (by decide)]
    · rw [a113, pk_us, pk_un (by decide), pk_un (by decide), pk_us]
  have hkp : cR_kp A2 cl mi (ck_cp (fun _ => 0) (fun _ => -1) 1667) := by
    intro q hq
    rw [c114, if_neg (by omega)]
    unfold ck_cp
    rw [if_pos hq]
  have eL : ∀ i, ¬ i = cl → va_up L 116 (vp_updL (L 116) cl 0) 116 i = L 116 i := fun i hi => by rw [va_us, pk_uLn hi]
  refine cI_new h (fun q => q = 64 ∨ q = 68 ∨ q = 69 ∨ (w ≤ q ∧ q < w + 6) ∨ q = s2 ∨ q = s2 + 1) (fun q hq => by omega) (fun q hq => qo q (by omega) (by omega) (by omega) (by omega) (by omega) (by omega)) (fun sd8 hm8 => ?_) ⟨upd (upd (upd K 2 0) 5 (-1)) 7 (nI (cl + 1)), ?_, ?_, ?_, ?_, ?_, ?_⟩ ⟨_, _, _, q68⟩ ?_ (fun j hj => ?_) (fun k hk => ao k (by omega)) (hB.clk (if_pos rfl) (fun p hp => if_neg hp) g1 hcl) (fun i hi => ?_) (fun h0 => ?_) (cbC_o (by omega) (by omega) (by omega)) (fun h0 => ?_) (fun q hq => ?_)
  · refine cR_m.rd hm8 (by omega) (by omega) pk_us (fun j hj => (pk_un (by omega)).trans ((ck_rdM_o (by omega)).trans (eM j (by omega) (by omega) (by omega)))) ((pk_un (by decide)).trans ((ck_rdM_o (by decide)).trans e5)) ⟨_, (pk_un (by decide)).trans ck_rdM_12⟩ ⟨_, (pk_un (by decide)).trans ck_rdM_13⟩ (fun k hk => ao k (by omega)) (fun i hi => ?_) (fun i hi => ?_)
    · by_cases e : i = cl
      · subst e; exact hng
      · exact cR_g_ag (hg i (by omega)) (eg i e) (eL i e)
    · by_cases e : i = cl
      · subst e; rw [c114]; exact Nat.le_refl _
      · rw [a114, pk_un e]; exact hac i (by omega)
  · rw [cbC_16 hcl]; exact q64
  · rw [pk_un (by decide), pk_un (by decide), pk_us, pk_un (by decide), ck_rdM_o (by decide)]; exact e5.symm
  · rw [pk_un (by decide), pk_us, pk_un (by decide), ck_rdM_14]; exact hb.symm
  · rw [pk_us, pk_us]
  · rw [pk_un (by decide), pk_un (by decide), pk_un (by decide), pk_un (by decide), ck_rdM_o (by decide), eM 59 (by decide) (by decide) (by decide)]; exact k10
  · rw [pk_un (by decide), pk_un (by decide), pk_un (by decide), pk_un (by decide), ck_rdM_o (by decide), eM 60 (by decide) (by decide) (by decide)]; exact k11
  · have e9 : va_up (fun i => if i < cl then some (bl (8 + i)) else none) cl (some s2) = (fun i => if i < cl + 1 then some (cbC bl cl w s2 (8 + i)) else none) := by
      funext i
      by_cases e : i = cl
      · subst e
        rw [va_us, if_pos (by omega), cbC_8]
      · rw [va_upn e]
        by_cases hi : i < cl
        · rw [if_pos hi, if_pos (by omega), cbC_o (by omega) (by omega) (by omega)]
        · rw [if_neg hi, if_neg (by omega)]
    rw [q69, e9]
  · exact (pk_un (by omega)).trans ((ck_rdM_o (by omega)).trans (eM j (by omega) (by omega) (by omega)))
  · by_cases e : i = cl
    · subst e
      rw [cbC_8, cbC_c]
      refine ⟨V, te, qu, Fo, st, S, cx_nc V Al x y mi, ck_cp (fun _ => 0) (fun _ => -1) 1667, hw2, ?_, qk, hnv, hcC, hkp⟩
      rw [va_us, pk_uLs]
      exact qs
    · rw [cbC_o (by omega) (by omega) (by omega), cbC_o (by omega) (by omega) (by omega)]
      obtain ⟨d1, d2, d3, d4⟩ := dw i (by omega)
      exact cR_c_fr (hc i (by omega)) (hg i (by omega)).1.1 (fun q hq => qo q (by omega) (by omega) (by omega) (by omega) (by omega) (by omega)) (eg i e) (eL i e)
  · exact absurd (cbC_16 hcl) h0
  · have d := hB.sn hn16 (show ¬ (if 17 = 16 then w else bl 17) = 0 by rw [if_neg (by decide)]; exact h0)
    have d2 := hB0.n h0
    try dsimp only at d
    rw [if_pos rfl, if_neg (by decide)] at d
    omega
  · rw [qo q (by omega) (by omega) (by omega) (by omega) (by omega) (by omega)]
    exact hnn q (by omega)
theorem ck_mi_nn {a b : Nat} (ha : a < 2 ^ 31) (hb : b < 2 ^ 31) : ck_mi3 (nI a) (nI b) = nI (min a b) ∧ ck_mi4 (nI a) (nI b) = nI (min a b) := by
  unfold ck_mi3 ck_mi4
  by_cases h : a < b
  · rw [if_pos ((nI_ltI ha hb).mpr h), Nat.min_eq_left (by omega)]
    exact ⟨rfl, rfl⟩
  · rw [if_neg (fun z => h ((nI_ltI ha hb).mp z)), Nat.min_eq_right (by omega)]
    exact ⟨rfl, rfl⟩
/-- behind a refitting -/
theorem cI_k3 {P B P2 : kx_P} {sz w s2 s9 n c : Nat} {M M1 : Nat → Int32} {A : Nat → Nat → Int32} {L : Nat → Nat → Int64} {cl mi se : Nat} {bl : Nat → Nat} {K C V0 T0 Q0 Fo0 St0 S0 Kp : Nat → Int32} {T : Nat → Int32} {R : ck_Qt} {r : Option Value} (h : cI P sz (M, A, L) cl mi se bl) (hS : cSP P sz cl bl B w s2) (hc9 : c < cl)
    (k7 : K 7 = M 21) (k10 : K 10 = M 59) (k11 : K 11 = M 60) (hw0 : cR_w P (bl c) V0 T0 Q0 Fo0 St0 S0) (hkq : P (bl (8 + c) + 1) = kI 0 1667 Kp) (hC : cR_C A c C) (hkp : cR_kp A c mi Kp) (eM : ∀ j, ¬ j = 0 → ¬ j = 5 → ¬ j = 14 → M1 j = M j) (e5 : M1 5 = 0) (hb : R.1.2.1 = -1) (hv : cVe R) (ht : cVt R.2.2.2.2.1) (hvq : ck_vq R)
    (hRF : cx_RF B K (bl (8 + c)) w (bl c) T n R C (L 116 c) (.ref (bl (8 + c) + 1)) s2 r P2 s9) : r = some (.int 1) ∧ s9 = s2 ∧ cR_af P P2 (ck_rdM M1 n R, ck_rA A R c, L) cl mi se s2 (cbR bl c w) := by
  obtain ⟨F, V, te, qu, Fo, st, hr, h2, hD9, h3⟩ := hRF
  refine ⟨hr, h2, ?_⟩
  obtain ⟨⟨S, hw⟩, ho⟩ := cSP_rw (V := V) (te := te) (qu := qu) (Fo := Fo) (st := st) (F := F) (X := kO 10 (kf (cr10 (.ref w)) (upd (upd K 2 0) 5 (-1)))) (X1 := kO 10 (kf (cr10 (.ref w)) (upd K 2 0))) hS
  have e68 : cx_rw (kx_set B 64 (kO 10 (kf (cr10 (.ref w)) (upd K 2 0)))) w V te qu Fo st F (kO 10 (kf (cr10 (.ref w)) (upd (upd K 2 0) 5 (-1)))) 68 = kO 8 (kf (cr8 (.ref 67) (.ref w)) F) := cx_rw_68
  generalize cx_rw (kx_set B 64 (kO 10 (kf (cr10 (.ref w)) (upd K 2 0)))) w V te qu Fo st F (kO 10 (kf (cr10 (.ref w)) (upd (upd K 2 0) 5 (-1)))) = P3 at hw ho e68 h3
  obtain ⟨g1, g2, g3, -, -, hB, hnn⟩ := hS
  obtain ⟨sd, hm, hst, ⟨hB0, hc, -, -, -⟩, -⟩ := id h
  have hcl : cl ≤ 8 := hm.2.2.1
  have hn16 : ¬ (fun p => if p = 16 then w else bl p) 16 = 0 := by show ¬ (if 16 = 16 then w else bl 16) = 0; rw [if_pos rfl]; omega
  have hg := hm.2.2.2.2.2.2.2.2.2.2.2.2.1
  have hac := hm.2.2.2.2.2.2.2.2.2.2.2.2.2.1
  have b1 := hB0.w hcl hc9
  have b2 := hB0.c hcl hc9
  have b3 := hB0.wc hcl hc9 hc9
  have dw : ∀ i, i < cl → (bl i + 6 ≤ w ∨ w + 6 ≤ bl i) ∧ (bl (8 + i) + 2 ≤ w ∨ w + 6 ≤ bl (8 + i)) ∧ (144 ≤ bl i ∧ bl i + 6 ≤ s2) ∧ 144 ≤ bl (8 + i) ∧ bl (8 + i) + 2 ≤ s2 := fun i hi => by
    have d1 := hB.sw (by omega) hi hn16
    have d2 := hB.sc (by omega) hi hn16
    have d3 := hB0.w (by omega) hi
    have d4 := hB0.c (by omega) hi
    try dsimp only at d1 d2
    rw [if_pos rfl, if_neg (by omega)] at d1 d2
    exact ⟨d1, d2, ⟨d3.2.1, by omega⟩, d4.2.1, by omega⟩
  have dwc := dw c hc9
  have q64 : P2 64 = kO 10 (kf (cr10 (.ref (bl c))) (upd (upd K 2 0) 5 (-1))) := by rw [h3]; exact ks_eq _ _ _
  have qs : P2 (bl (8 + c)) = kO 1 (kf (cr1 (.ref w) (L 116 c) (.ref (bl (8 + c) + 1))) (upd (upd (upd C 6 (cj_min (C 6) (1440 * V 0))) 7 (cj_min (C 7) (V 6))) 8 0)) := by rw [h3, ks_ne (by omega), ks_eq]
  have q68 : P2 68 = kO 8 (kf (cr8 (.ref 67) (.ref w)) F) := by rw [h3, ks_ne (by decide), ks_ne (by omega)]; exact e68
  have qo3 : ∀ q, ¬ q = 64 → ¬ q = bl (8 + c) → P2 q = P3 q := fun q n1 n2 => by rw [h3, ks_ne n1, ks_ne n2]
  clear h3
  have qo : ∀ q, ¬ q = 64 → ¬ q = 68 → (q < w ∨ w + 6 ≤ q) → ¬ q = bl (8 + c) → P2 q = P q := fun q n1 n2 n4 n5 => (qo3 q n1 n5).trans (ho q n1 n2 n4)
  have hw2 : cR_w P2 w V te qu Fo st S := cR_w_fr hw (fun q a b => qo3 q (by omega) (by omega))
  have a102 : ck_rA A R c 102 = ck_put (A 102) R.2.2.2.2.1 (16 * c) 16 := rfl
  have a103 : ck_rA A R c 103 = upd (A 103) c (nI R.2.2.1) := rfl
  have a104 : ck_rA A R c 104 = ck_put (A 104) R.2.2.2.2.2 (24 * c) R.2.2.1 := rfl
  have a105 : ck_rA A R c 105 = upd (A 105) c (nI R.1.2.2.2.2.1) := rfl
  have a106 : ck_rA A R c 106 = ck_put (A 106) R.1.2.2.2.2.2.1 (400 * c) R.1.2.2.2.2.1 := rfl
  have a107 : ck_rA A R c 107 = ck_put (A 107) R.1.2.2.2.2.2.2 (400 * c) R.1.2.2.2.2.1 := rfl
  have a108 : ck_rA A R c 108 = upd (A 108) c (ck_mi3 (A 108 c) (1440 * R.2.2.2.2.1 0)) := rfl
  have a109 : ck_rA A R c 109 = upd (A 109) c (ck_mi4 (A 109 c) (R.2.2.2.2.1 5)) := rfl
  have a110 : ck_rA A R c 110 = upd (A 110) c 0 := rfl
  have a117 : ck_rA A R c 117 = upd (A 117) c R.2.2.2.1 := rfl
  have ao : ∀ k, k = 94 ∨ k = 95 ∨ k = 100 ∨ k = 101 ∨ (111 ≤ k ∧ k ≤ 116) ∨ (118 ≤ k ∧ k ≤ 136) → ck_rA A R c k = A k := by
    intro k hk
    unfold ck_rA
    rw [va_upn (by omega), va_upn (by omega), va_upn (by omega), ck_tk_o ⟨by omega, by omega, by omega, by omega, by omega, by omega, by omega⟩, ck_rdA_o (by omega)]
  generalize ck_rA A R c = A2 at a102 a103 a104 a105 a106 a107 a108 a109 a110 a117 ao ⊢
  obtain ⟨vq1, vq2, vq3⟩ := hvq
  have eg : ∀ i, ¬ i = c → cR_ag A A2 i := fun i hi => cR_ag_n hi a102 a104 vq2 a106 a107 vq1 (ao 122 (by omega)) (fun k hk => by
    rcases (show k = 103 ∨ k = 105 ∨ k = 108 ∨ k = 109 ∨ k = 110 ∨ k = 117 ∨ k = 100 ∨ k = 101 ∨ (111 ≤ k ∧ k ≤ 116) by omega) with e | e | e | e | e | e | e | e | e
    · rw [e, a103]; exact pk_un hi
    · rw [e, a105]; exact pk_un hi
    · rw [e, a108]; exact pk_un hi
    · rw [e, a109]; exact pk_un hi
    · rw [e, a110]; exact pk_un hi
    · rw [e, a117]; exact pk_un hi
    · rw [e, ao 100 (by omega)]
    · rw [e, ao 101 (by omega)]
    · rw [ao k (by omega)])
  have c102 : ∀ j, j < 16 → A2 102 (16 * c + j) = R.2.2.2.2.1 j := fun j hj => by rw [a102]; exact ck_put_i hj
  have c117 : A2 117 c = R.2.2.2.1 := by rw [a117]; exact pk_us
  have c103 : A2 103 c = nI R.2.2.1 := by rw [a103]; exact pk_us
  have c104 : ∀ j, j < R.2.2.1 → A2 104 (24 * c + j) = R.2.2.2.2.2 j := fun j hj => by rw [a104]; exact ck_put_i hj
  have c105 : A2 105 c = nI R.1.2.2.2.2.1 := by rw [a105]; exact pk_us
  have c106 : ∀ j, j < R.1.2.2.2.2.1 → A2 106 (400 * c + j) = R.1.2.2.2.2.2.1 j ∧ A2 107 (400 * c + j) = R.1.2.2.2.2.2.2 j := fun j hj => ⟨by rw [a106]; exact ck_put_i hj, by rw [a107]; exact ck_put_i hj⟩
  have hnv := cR_new (A := A2) (c := c) hD9 hv rfl vq1 rfl vq2 c102 c117 c103 c104 c105 c106
  obtain ⟨⟨run, rn1, rn2, rn3⟩, -, -, -, -, -, ⟨sk, sk1, sk2⟩, -, -⟩ := id ht
  obtain ⟨⟨⟨g0, g110, gnn⟩, ⟨r1, r2, r3, r4, r15, r115, ⟨run0, lf0, z1, z2, z3, z4, z5⟩, r113⟩, gdl⟩, i1, i2, ⟨r0, y1, y2⟩, i5, i117, i104, i105, i111, i112, i100, i114⟩ := hg c hc9
  have e1440 : (1440 : Int32) * R.2.2.2.2.1 0 = nI (1440 * run) := by rw [rn3, show (1440 : Int32) = nI 1440 from rfl, pk_mul]
  have hng : cR_g A2 L c := cR_newg hv ht rfl vq1 rfl vq2 c102 c117 c103 c104 c105 c106 (by rw [a110]; exact pk_us) ⟨min lf0 (1440 * run), run, rn3, rn2, by rw [a108, pk_us, show A 108 c = nI lf0 from z4, e1440]; exact (ck_mi_nn (by omega) (by omega)).1, Nat.min_le_right _ _⟩ ⟨min r0 sk, by omega, by rw [a109, pk_us, show A 109 c = nI r0 from y2, sk2]; exact (ck_mi_nn (by omega) (by omega)).2⟩ (by rw [ao 115 (by omega)]; exact r115) (by rw [ao 113 (by omega)]; exact r113) gdl (by rw [ao 111 (by omega)]; exact i111) (by rw [ao 112 (by omega)]; exact i112) (by rw [ao 100 (by omega), ao 101 (by omega)]; exact i100) (by rw [ao 114 (by omega)]; exact i114)
  have hcC : cR_C A2 c (upd (upd (upd C 6 (cj_min (C 6) (1440 * V 0))) 7 (cj_min (C 7) (V 6))) 8 0) := by
    obtain ⟨-, ⟨v0, -, -, -, -, -, v6, -⟩, -⟩ := hD9
    obtain ⟨u0, u1, u4, u5, u6, u7, u8, u9, u10⟩ := hC
    refine ⟨?_, ?_, ?_, ?_, ?_, ?_, fun _ => ?_, ?_, ?_⟩
    · rw [pk_un (by decide), pk_un (by decide), pk_un (by decide), ao 100 (by omega)]; exact u0
    · rw [pk_un (by decide), pk_un (by decide), pk_un (by decide), ao 101 (by omega)]; exact u1
    · rw [pk_un (by decide), pk_un (by decide), pk_un (by decide), ao 111 (by omega)]; exact u4
    · rw [pk_un (by decide), pk_un (by decide), pk_un (by decide), ao 112 (by omega)]; exact u5
    · rw [pk_un (by decide), pk_un (by decide), pk_us, a108, pk_us, v0, u6]; exact cj_ck_min _ _
    · rw [pk_un (by decide), pk_us, a109, pk_us, v6, u7]; exact cj_ck_min _ _
    · rw [pk_us, a110, pk_us]
    · rw [pk_un (by decide), pk_un (by decide), pk_un (by decide), ao 115 (by omega)]; exact u9
    · rw [pk_un (by decide), pk_un (by decide), pk_un (by decide), ao 113 (by omega)]; exact u10
  have hkp2 : cR_kp A2 c mi Kp := by
    intro q hq
    rw [ao 114 (by omega), ao 122 (by omega)]
    exact hkp q hq
  refine cI_new h (fun q => q = 64 ∨ q = 68 ∨ (w ≤ q ∧ q < w + 6) ∨ q = bl (8 + c)) (fun q hq => by omega) (fun q hq => qo q (by omega) (by omega) (by omega) (by omega)) (fun sd8 hm8 => ?_) ⟨upd (upd K 2 0) 5 (-1), ?_, ?_, ?_, ?_, ?_, ?_⟩ ⟨_, _, _, q68⟩ ?_ (fun j hj => ?_) (fun k hk => ao k (by omega)) (hB.ref (if_pos rfl) (fun p hp => if_neg hp) g1 hc9 hcl) (fun i hi => ?_) (fun h0 => ?_) (cbR_o (by omega) (by omega)) (fun h0 => ?_) (fun q hq => ?_)
  · refine cR_m.rd hm8 (Nat.le_refl _) hcl ((ck_rdM_o (by decide)).trans ((eM 21 (by decide) (by decide) (by decide)).trans hm8.2.1)) (fun j hj => (ck_rdM_o (by omega)).trans (eM j (by omega) (by omega) (by omega))) ((ck_rdM_o (by decide)).trans e5) ⟨_, ck_rdM_12⟩ ⟨_, ck_rdM_13⟩ (fun k hk => ao k (by omega)) (fun i hi => ?_) (fun i hi => ?_)
    · by_cases e : i = c
      · subst e; exact hng
      · exact cR_g_ag (hg i hi) (eg i e) rfl
    · rw [ao 114 (by omega)]; exact hac i hi
  · rw [cbR_16 (by omega), cR_sv_r b1.2.1]; exact q64
  · rw [pk_un (by decide), pk_us, ck_rdM_o (by decide)]; exact e5.symm
  · rw [pk_us, ck_rdM_14]; exact hb.symm
  · rw [pk_un (by decide), pk_un (by decide), ck_rdM_o (by decide), eM 21 (by decide) (by decide) (by decide)]; exact k7
  · rw [pk_un (by decide), pk_un (by decide), ck_rdM_o (by decide), eM 59 (by decide) (by decide) (by decide)]; exact k10
  · rw [pk_un (by decide), pk_un (by decide), ck_rdM_o (by decide), eM 60 (by decide) (by decide) (by decide)]; exact k11
  · have e9 : (fun i => if i < cl then some (cbR bl c w (8 + i)) else none) = (fun i => if i < cl then some (bl (8 + i)) else none) := by
      funext i
      by_cases hi : i < cl
      · rw [if_pos hi, if_pos hi, cbR_o (by omega) (by omega)]
      · rw [if_neg hi, if_neg hi]
    rw [e9, qo 69 (by decide) (by decide) (by omega) (by omega)]
    exact hst.2.2.2.2.2.1
  · exact (ck_rdM_o (by omega)).trans (eM j (by omega) (by omega) (by omega))
  · by_cases e : i = c
    · subst e
      rw [cbR_o (by omega) (by omega), cbR_c]
      exact ⟨V, te, qu, Fo, st, S, _, Kp, hw2, qs, (qo _ (by omega) (by omega) (by omega) (by omega)).trans hkq, hnv, hcC, hkp2⟩
    · rw [cbR_o (by omega) (by omega), cbR_o (by omega) (by omega)]
      obtain ⟨d1, d2, d3, d4⟩ := dw i hi
      have d5 := hB0.wc hcl hi hc9
      have d6 := hB0.cc hcl hi hc9 e
      exact cR_c_fr (hc i hi) (hg i hi).1.1 (fun q hq => qo q (by omega) (by omega) (by omega) (by omega)) (eg i e) rfl
  · rw [cbR_16 (by omega)]
    exact ⟨_, _, _, _, _, _, cR_w_fr hw0 (fun q a b => qo q (by omega) (by omega) (by omega) (by omega))⟩
  · have d := hB.sn hn16 (show ¬ (if 17 = 16 then w else bl 17) = 0 by rw [if_neg (by decide)]; exact h0)
    have d2 := hB0.n h0
    have d3 := hB0.nc hcl hc9 h0
    try dsimp only at d
    rw [if_pos rfl, if_neg (by decide)] at d
    omega
  · rw [qo q (by omega) (by omega) (by omega) (by omega)]
    exact hnn q hq
theorem cx_it_1 {n t : Int32} (h : 0 ≤ n ∧ n ≤ t) : cx_it n t = 1 := by
  unfold cx_it
  rw [if_neg (Int32.not_lt.mpr h.1), if_neg (Int32.not_lt.mpr h.2)]
theorem cx_it_t {n t : Int32} (h : cx_it n t = 1) : 0 ≤ n ∧ n ≤ t := by
  unfold cx_it at h
  by_cases h1 : n < 0
  · rw [if_pos h1] at h; exact absurd h (by decide)
  · rw [if_neg h1] at h
    by_cases h2 : t < n
    · rw [if_pos h2] at h; exact absurd h (by decide)
    · exact ⟨Int32.not_lt.mp h1, Int32.not_lt.mp h2⟩
/-- reading a text into the spare works, whether they are there or must be made -/
theorem cI_sp (l : Launch) (G : kx_G) {P : kx_P} {sz n : Nat} {M M1 : Nat → Int32} {A : Nat → Nat → Int32} {L : Nat → Nat → Int64} {cl mi se : Nat} {bl : Nat → Nat} {K : Nat → Int32} (h : cI P sz (M, A, L) cl mi se bl) (h64 : P 64 = kO 10 (kf (cr10 (cR_sv (bl 16))) K)) (hn : n ≤ 400) :
    (¬ bl 16 = 0 → kx_Mn l G sX10_readSpare 48 0 0 [.ref 64, .int (nI n)] P sz (cx_RS P K (bl 16) (A 95) n (ck_rd M1 A n) sz)) ∧ (bl 16 = 0 → kx_Mn l G sX10_readSpare 48 6 512 [.ref 64, .int (nI n)] P sz (cx_RS (cx_nw P sz) K sz (A 95) n (ck_rd M1 A n) (sz + 6))) := by
  obtain ⟨sd, hm, ⟨-, -, -, p67, ⟨t0, x0, F8, p68⟩, -⟩, ⟨hB, -, hsp, -, -⟩, -⟩ := h
  refine ⟨fun hb => ?_, fun hb => ?_⟩
  · obtain ⟨V, T, Q, Fo, St, S, hw⟩ := hsp hb
    have d := hB.s hb
    rw [cR_sv_r d.1] at h64
    exact ct_X10_readSpare_r l G d.1 h64 ⟨V, T, Q, Fo, St, hw.1, hw.2.1, hw.2.2.1, hw.2.2.2.1, hw.2.2.2.2.1⟩ p67 p68 hn (t := A 96) (C := A 97) (N := A 98) (e := A 99) (k0 := M1 9) (o0 := M1 11) rfl
  · rw [hb] at h64
    exact ct_X10_readSpare_n l G hB.1 h64 p67 p68 hn (t := A 96) (C := A 97) (N := A 98) (e := A 99) (k0 := M1 9) (o0 := M1 11) rfl
theorem ck_rd_V {M1 : Nat → Int32} {A : Nat → Nat → Int32} {n : Nat} (hn : n ≤ 400) (hb : (ck_rd M1 A n).1.2.1 = -1) : cVe (ck_rd M1 A n) ∧ cVt (ck_rd M1 A n).2.2.2.2.1 :=
  ck_rds_V (T := A 95) (t := A 96) (C := A 97) (N := A 98) (e := A 99) (k0 := M1 9) (o0 := M1 11) hn hb
theorem cro_o {bl b2 : Nat → Nat} (h : b2 17 = bl 17) : cro b2 = cro bl := by unfold cro; rw [h]
theorem cs_refit (l : Launch) (G : kx_G) (hst : l.stackTraces = false) {P : kx_P} {sz : Nat} {M : Nat → Int32} {A : Nat → Nat → Int32} {L : Nat → Nat → Int64} {cl mi se : Nat} {bl : Nat → Nat} (h : cI P sz (M, A, L) cl mi se bl) (x y : Int32) : cSs l G sX10_refit sX11_refit [.int x, .int y] [.int x, .int y] P sz (M, A, L) se bl cS_NA := by
  obtain ⟨K, h64, h69, h7, hcl, k2, k5, k10, k11, h21⟩ := cI_k h
  obtain ⟨sd, hm, -⟩ := id h
  obtain ⟨⟨c0, w0, -, -, h12, h13, -⟩, -, -, -, -, -, -, ⟨tp, htp, h5⟩, -⟩ := id hm
  have h12 : M 12 = nI c0 := h12
  have h13 : M 13 = nI w0 := h13
  have h5 : M 5 = nI tp := h5
  rcases cl_ix hcl h7 h21 x with ⟨c, hc, rfl⟩ | ⟨hx, hy⟩
  · by_cases hn : 0 ≤ y ∧ y ≤ M 5
    · obtain ⟨n, hn1, rfl⟩ := nI_of3 (n := tp) (by omega) hn.1 (by rw [← h5]; exact hn.2)
      have hit : cx_it (nI n) (K 2) = 1 := cx_it_1 (by rw [k2]; exact hn)
      have hn4 : n ≤ 400 := by omega
      obtain ⟨hr1, hr2⟩ := cI_sp (M1 := upd (upd M 0 0) 5 0) l G h h64 hn4
      have eM : ∀ j, ¬ j = 0 → ¬ j = 5 → ¬ j = 14 → upd (upd M 0 0) 5 0 j = M j := fun j j1 j2 _ => by rw [pk_un j2, pk_un j1]
      have h00 : ck_rdM (upd (upd M 0 0) 5 0) n (ck_rd (upd (upd M 0 0) 5 0) A n) 0 = 0 := (ck_rdM_o (by decide)).trans ((pk_un (by decide)).trans pk_us)
      by_cases hb : (ck_rd (upd (upd M 0 0) 5 0) A n).1.2.1 = -1
      · obtain ⟨hv, ht⟩ := ck_rd_V hn4 hb
        have hvq := ck_rd_v hn4 hb
        obtain ⟨K', Al, V, T, Q, Fo, St, S1, C, Kp, -, -, -, -, H, hs, hq, hkq, hA, al0, al1, al3, hmi, h1, -, hcv, hC, hkp, hg⟩ := cI_c h hc
        have hmo := fun (R9 : kx_P) (s3 : Nat) => ct_X11_refit_t l G (L := L) (R := R9) (sz := s3) h21 hcl hc h5 htp hn1 h12 h13 hb hvq.2.1 hvq.1 hvq.2.2
        generalize ck_rd (upd (upd M 0 0) 5 0) A n = R at hr1 hr2 hb hv ht hvq hmo h00
        by_cases b0 : bl 16 = 0
        · have hS := cSP_n h
          have hcw : bl (8 + c) + 2 ≤ sz ∧ 144 ≤ bl (8 + c) := by
            obtain ⟨sd8, hm8, -, ⟨hB8, -⟩, -⟩ := id h
            exact ⟨(hB8.c hcl hc).2.2, (hB8.c hcl hc).2.1⟩
          have hw9 := cI_w6 H hs
          refine Or.inl ⟨.int 1, (ck_rdM (upd (upd M 0 0) 5 0) n R, ck_rA A R c, L), 50, 44, 6, 512, cl, mi, se, cbR bl c sz, cvT_i (by decide), by decide, by decide, by decide, ?_, by omega, (ct_X10_refit_tn l G h64 h69 h7 hcl hc hit (hr2 b0) hS.1 hcw.1 hcw.2 hq hb).imp (fun r P2 s3 hRF => ?_), fun R9 s3 => (hmo R9 s3).n.imp (fun r P3 s4 ⟨a, b, d⟩ => ⟨a, d, _, b, h00, cq.rf _⟩)⟩
          · rw [cro_o (b2 := cbR bl c sz) (bl := bl) (cbR_o (by omega) (by omega))]; omega
          · obtain ⟨a, b, d⟩ := cI_k3 h hS hc (h7.trans h21.symm) k10 k11 hw9 hkq hC hkp eM pk_us hb hv ht hvq hRF
            exact ⟨a, by omega, by rw [b]; exact d⟩
        · have hS := cSP_r h b0
          have hcw : (bl (8 + c) + 2 ≤ bl 16 ∨ bl 16 + 6 ≤ bl (8 + c)) ∧ 144 ≤ bl (8 + c) := by
            obtain ⟨sd8, hm8, -, ⟨hB8, -⟩, -⟩ := id h
            exact ⟨hB8.sc hcl hc b0, (hB8.c hcl hc).2.1⟩
          have hw9 := cI_w6 H hs
          refine Or.inl ⟨.int 1, (ck_rdM (upd (upd M 0 0) 5 0) n R, ck_rA A R c, L), 50, 44, 0, 0, cl, mi, se, cbR bl c (bl 16), cvT_i (by decide), by decide, by decide, by decide, ?_, by omega, (ct_X10_refit_tr l G h64 h69 h7 hcl hc hit (hr1 b0) hS.1 hcw.1 hcw.2 hq hb).imp (fun r P2 s3 hRF => ?_), fun R9 s3 => (hmo R9 s3).n.imp (fun r P3 s4 ⟨a, b, d⟩ => ⟨a, d, _, b, h00, cq.rf _⟩)⟩
          · rw [cro_o (b2 := cbR bl c (bl 16)) (bl := bl) (cbR_o (by omega) (by omega))]; omega
          · obtain ⟨a, b, d⟩ := cI_k3 h hS hc (h7.trans h21.symm) k10 k11 hw9 hkq hC hkp eM pk_us hb hv ht hvq hRF
            exact ⟨a, by omega, by rw [b]; exact d⟩
      · have hmo := fun (R9 : kx_P) (s3 : Nat) => ct_X11_refit_k l G (L := L) (R := R9) (sz := s3) h21 hcl hc h5 htp hn1 h12 h13 hb
        generalize ck_rd (upd (upd M 0 0) 5 0) A n = R at hr1 hr2 hb hmo h00
        by_cases b0 : bl 16 = 0
        · have hS := cSP_n h
          refine Or.inl ⟨.int (R.1.2.2.1 - 10), (ck_rdM (upd (upd M 0 0) 5 0) n R, ck_rdA A R, L), 50, 44, 6, 512, cl, mi, se, (fun p => if p = 16 then sz else bl p), cvT_i (by decide), by decide, by decide, by decide, ?_, by omega, (ct_X10_refit_kn l G h64 h69 h7 hcl hc hit (hr2 b0) hb).imp (fun r P2 s3 ⟨a, hRS⟩ => ?_), fun R9 s3 => (hmo R9 s3).n.imp (fun r P3 s4 ⟨a, b, d⟩ => ⟨a, d, _, b, h00, cq.rf _⟩)⟩
          · rw [cro_o (b2 := fun p => if p = 16 then sz else bl p) (bl := bl) (if_neg (by decide))]; omega
          · obtain ⟨b, d⟩ := cI_k1 h hS (h7.trans h21.symm) k10 k11 eM pk_us hRS
            exact ⟨a, by omega, by rw [b]; exact d⟩
        · have hS := cSP_r h b0
          refine Or.inl ⟨.int (R.1.2.2.1 - 10), (ck_rdM (upd (upd M 0 0) 5 0) n R, ck_rdA A R, L), 50, 44, 0, 0, cl, mi, se, (fun p => if p = 16 then bl 16 else bl p), cvT_i (by decide), by decide, by decide, by decide, ?_, by omega, (ct_X10_refit_kr l G h64 h69 h7 hcl hc hit (hr1 b0) hb).imp (fun r P2 s3 ⟨a, hRS⟩ => ?_), fun R9 s3 => (hmo R9 s3).n.imp (fun r P3 s4 ⟨a, b, d⟩ => ⟨a, d, _, b, h00, cq.rf _⟩)⟩
          · rw [cro_o (b2 := fun p => if p = 16 then bl 16 else bl p) (bl := bl) (if_neg (by decide))]; omega
          · obtain ⟨b, d⟩ := cI_k1 h hS (h7.trans h21.symm) k10 k11 eM pk_us hRS
            exact ⟨a, by omega, by rw [b]; exact d⟩
    · exact cSs_2 (cSx_q (by decide) (by decide) (Or.inl rfl) (ct_X10_refit_b l G hst h64 h69 h7 hcl hc (fun z => hn (by rw [← k2]; exact cx_it_t z))) (fun R s2 => ct_X11_refit_b l G h21 hcl hc hn))
  · exact cSs_1 (cSx_q (by decide) (by decide) (Or.inl rfl) (ct_X10_refit_f l G hst h64 hx) (fun R s2 => ct_X11_refit_f l G hy))
theorem cs_clock (l : Launch) (G : kx_G) (hst : l.stackTraces = false) {P : kx_P} {sz : Nat} {M : Nat → Int32} {A : Nat → Nat → Int32} {L : Nat → Nat → Int64} {cl mi se : Nat} {bl : Nat → Nat} (h : cI P sz (M, A, L) cl mi se bl) (x y z : Int32) : cSs l G sX10_clock sX11_clock [.int x, .int y, .int z] [.int x, .int y, .int z] P sz (M, A, L) se bl cS_A := by
  obtain ⟨K, h64, h69, h7, hcl, k2, k5, k10, k11, h21⟩ := cI_k h
  obtain ⟨sd, hm, ⟨-, ⟨Al, p65, al0, al1, -⟩, p66, p67, ⟨t0, x0, F8, p68⟩, -, -, -, -, -, -, -, -, -, -, -, -, -, -, -, -, p1, p2⟩, ⟨hB, hcc, hsp, hno, hnn⟩, -⟩ := id h
  obtain ⟨⟨c0, w0, -, -, h12, h13, -⟩, -, -, h1, hmi, -, -, ⟨tp, htp, h5⟩, -⟩ := id hm
  have h12 : M 12 = nI c0 := h12
  have h13 : M 13 = nI w0 := h13
  have h5 : M 5 = nI tp := h5
  have h1 : M 1 = nI mi := h1
  have al0 : Al 0 = M 1 := al0
  have al1 : Al 1 = M 3 := al1
  by_cases hx : 0 ≤ x ∧ x ≤ 99
  · by_cases hy : 0 ≤ y ∧ y ≤ 99
    · by_cases hn : 0 ≤ z ∧ z ≤ M 5
      · obtain ⟨n, hn1, rfl⟩ := nI_of3 (n := tp) (by omega) hn.1 (by rw [← h5]; exact hn.2)
        have hip := cx_ip_1 hx hy
        have hit : cx_it (nI n) (K 2) = 1 := cx_it_1 (by rw [k2]; exact hn)
        have hn4 : n ≤ 400 := by omega
        by_cases h8 : cl = 8
        · have e8 : M 21 = 8 := by rw [h21, h8]; rfl
          have e00 : upd (upd (upd M 0 0) 5 0) 14 (-1) 0 = 0 := (pk_un (by decide)).trans ((pk_un (by decide)).trans pk_us)
          refine Or.inl (cSt_s h (ct_X10_clock_8 l G h64 hip hit (by rw [h7, h8]; rfl)) (cI_new h (fun q => q = 64) (fun q hq => by omega) (fun q hq => ks_ne hq) (fun sd8 hm8 => ?_) ⟨upd (upd K 2 0) 5 (-1), ks_eq _ _ _, ?_, ?_, ?_, ?_, ?_⟩ ⟨t0, x0, F8, (ks_ne (by decide)).trans p68⟩ ((ks_ne (by decide)).trans h69) (fun j hj => ?_) (fun k hk => rfl) hB (fun i hi => ?_) (fun h0 => ?_) rfl (fun h0 => ?_) (fun q hq => ?_)) e00 (fun R s2 => ct_X11_clock_8 l G hx hy h5 htp hn1 e8))
          · exact cR_m.rd hm8 (Nat.le_refl _) hcl ((pk_un (by decide)).trans ((pk_un (by decide)).trans ((pk_un (by decide)).trans h21))) (fun j hj => (pk_un (by omega)).trans ((pk_un (by omega)).trans (pk_un (by omega)))) ((pk_un (by decide)).trans pk_us) ⟨c0, (pk_un (by decide)).trans ((pk_un (by decide)).trans ((pk_un (by decide)).trans h12))⟩ ⟨w0, (pk_un (by decide)).trans ((pk_un (by decide)).trans ((pk_un (by decide)).trans h13))⟩ (fun _ _ => rfl) hm.2.2.2.2.2.2.2.2.2.2.2.2.1 hm.2.2.2.2.2.2.2.2.2.2.2.2.2.1
          · rw [pk_un (by decide), pk_us, pk_un (by decide), pk_us]
          · rw [pk_us, pk_us]
          · rw [pk_un (by decide), pk_un (by decide), pk_un (by decide), pk_un (by decide), pk_un (by decide)]; exact h7.trans h21.symm
          · rw [pk_un (by decide), pk_un (by decide), pk_un (by decide), pk_un (by decide), pk_un (by decide)]; exact k10
          · rw [pk_un (by decide), pk_un (by decide), pk_un (by decide), pk_un (by decide), pk_un (by decide)]; exact k11
          · exact (pk_un (by omega)).trans ((pk_un (by omega)).trans (pk_un (by omega)))
          · have d1 := hB.w hcl hi
            have d2 := hB.c hcl hi
            exact cR_c_fr (hcc i hi) (hm.2.2.2.2.2.2.2.2.2.2.2.2.1 i hi).1.1 (fun q hq => ks_ne (by omega)) (cR_ag.rf A i) rfl
          · obtain ⟨V, T, Q, Fo, St, S, hw⟩ := hsp h0
            have d1 := hB.s h0
            exact ⟨V, T, Q, Fo, St, S, cR_w_fr hw (fun q a b => ks_ne (by omega))⟩
          · have d1 := hB.n h0
            omega
          · have d0 := hB.1
            exact (ks_ne (by omega)).trans (hnn q hq)
        · have hcl8 : cl < 8 := by omega
          obtain ⟨u, u1, rfl⟩ := nI_of3 (n := 99) (by decide) hx.1 hx.2
          obtain ⟨v, v1, rfl⟩ := nI_of3 (n := 99) (by decide) hy.1 hy.2
          obtain ⟨hr1, hr2⟩ := cI_sp (M1 := upd (upd (upd M 0 0) 5 0) 14 (-1)) l G h h64 hn4
          have eM : ∀ j, ¬ j = 0 → ¬ j = 5 → ¬ j = 14 → upd (upd (upd M 0 0) 5 0) 14 (-1) j = M j := fun j j1 j2 j3 => by rw [pk_un j3, pk_un j2, pk_un j1]
          have e5 : upd (upd (upd M 0 0) 5 0) 14 (-1) 5 = 0 := (pk_un (by decide)).trans pk_us
          have h00 : ck_rdM (upd (upd (upd M 0 0) 5 0) 14 (-1)) n (ck_rd (upd (upd (upd M 0 0) 5 0) 14 (-1)) A n) 0 = 0 := (ck_rdM_o (by decide)).trans ((pk_un (by decide)).trans ((pk_un (by decide)).trans pk_us))
          by_cases hb : (ck_rd (upd (upd (upd M 0 0) 5 0) 14 (-1)) A n).1.2.1 = -1
          · obtain ⟨hv, ht⟩ := ck_rd_V hn4 hb
            have hvq := ck_rd_v hn4 hb
            have hmo := fun (R9 : kx_P) (s3 : Nat) => ct_X11_clock_t l G (L := L) (R := R9) (sz := s3) hx hy h5 htp hn1 hcl8 h21 h12 h13 h1 hmi hb hvq.2.1 hvq.1 hvq.2.2
            generalize ck_rd (upd (upd (upd M 0 0) 5 0) 14 (-1)) A n = R at hr1 hr2 hb hv ht hvq hmo h00
            have h01 : upd (ck_rdM (upd (upd (upd M 0 0) 5 0) 14 (-1)) n R) 21 (nI (cl + 1)) 0 = 0 := (pk_un (by decide)).trans h00
            by_cases b0 : bl 16 = 0
            · have hS := cSP_n h
              refine Or.inl ⟨.int (nI cl), (upd (ck_rdM (upd (upd (upd M 0 0) 5 0) 14 (-1)) n R) 21 (nI (cl + 1)), ck_kA M A R cl (nI u) (nI v) mi, va_up L 116 (vp_updL (L 116) cl 0)), 50, 44, 8, 2195, cl + 1, mi, se, cbC bl cl sz (sz + 6), cvT_i (by decide), by decide, by decide, by decide, ?_, by omega, (ct_X10_clock_tn l G h64 hip hit h7 hcl8 (hr2 b0) hS.1 h69 p65 p66 p1 (al0.trans h1) hmi hb).imp (fun r P2 s3 hCK => ?_), fun R9 s3 => (hmo R9 s3).n.imp (fun r P3 s4 ⟨a, b, d⟩ => ⟨a, d, _, b, h01, cq.rf _⟩)⟩
              · rw [cro_o (b2 := cbC bl cl sz (sz + 6)) (bl := bl) (cbC_o (by omega) (by omega) (by omega))]; omega
              · obtain ⟨a, b, d⟩ := cI_k2 h hS hcl8 k10 k11 al1 eM e5 hb hv ht hvq u1 v1 hCK
                exact ⟨a, by omega, by rw [b]; exact d⟩
            · have hS := cSP_r h b0
              obtain ⟨S9, h5w⟩ := hS.2.2.2.2.1
              refine Or.inl ⟨.int (nI cl), (upd (ck_rdM (upd (upd (upd M 0 0) 5 0) 14 (-1)) n R) 21 (nI (cl + 1)), ck_kA M A R cl (nI u) (nI v) mi, va_up L 116 (vp_updL (L 116) cl 0)), 50, 44, 2, 1683, cl + 1, mi, se, cbC bl cl (bl 16) sz, cvT_i (by decide), by decide, by decide, by decide, ?_, by omega, (ct_X10_clock_tr l G h64 hip hit h7 hcl8 (hr1 b0) hS.1 hS.2.1 h5w h69 p65 p66 p1 (al0.trans h1) hmi hb).imp (fun r P2 s3 hCK => ?_), fun R9 s3 => (hmo R9 s3).n.imp (fun r P3 s4 ⟨a, b, d⟩ => ⟨a, d, _, b, h01, cq.rf _⟩)⟩
              · rw [cro_o (b2 := cbC bl cl (bl 16) sz) (bl := bl) (cbC_o (by omega) (by omega) (by omega))]; omega
              · obtain ⟨a, b, d⟩ := cI_k2 h hS hcl8 k10 k11 al1 eM e5 hb hv ht hvq u1 v1 hCK
                exact ⟨a, by omega, by rw [b]; exact d⟩
          · have hmo := fun (R9 : kx_P) (s3 : Nat) => ct_X11_clock_k l G (L := L) (R := R9) (sz := s3) hx hy h5 htp hn1 hcl8 h21 h12 h13 hb
            generalize ck_rd (upd (upd (upd M 0 0) 5 0) 14 (-1)) A n = R at hr1 hr2 hb hmo h00
            by_cases b0 : bl 16 = 0
            · have hS := cSP_n h
              refine Or.inl ⟨.int (R.1.2.2.1 - 10), (ck_rdM (upd (upd (upd M 0 0) 5 0) 14 (-1)) n R, ck_rdA A R, L), 50, 44, 6, 512, cl, mi, se, (fun p => if p = 16 then sz else bl p), cvT_i (by decide), by decide, by decide, by decide, ?_, by omega, (ct_X10_clock_kn l G h64 hip hit h7 hcl8 (hr2 b0) hb).imp (fun r P2 s3 ⟨a, hRS⟩ => ?_), fun R9 s3 => (hmo R9 s3).n.imp (fun r P3 s4 ⟨a, b, d⟩ => ⟨a, d, _, b, h00, cq.rf _⟩)⟩
              · rw [cro_o (b2 := fun p => if p = 16 then sz else bl p) (bl := bl) (if_neg (by decide))]; omega
              · obtain ⟨b, d⟩ := cI_k1 h hS (h7.trans h21.symm) k10 k11 eM e5 hRS
                exact ⟨a, by omega, by rw [b]; exact d⟩
            · have hS := cSP_r h b0
              refine Or.inl ⟨.int (R.1.2.2.1 - 10), (ck_rdM (upd (upd (upd M 0 0) 5 0) 14 (-1)) n R, ck_rdA A R, L), 50, 44, 0, 0, cl, mi, se, (fun p => if p = 16 then bl 16 else bl p), cvT_i (by decide), by decide, by decide, by decide, ?_, by omega, (ct_X10_clock_kr l G h64 hip hit h7 hcl8 (hr1 b0) hb).imp (fun r P2 s3 ⟨a, hRS⟩ => ?_), fun R9 s3 => (hmo R9 s3).n.imp (fun r P3 s4 ⟨a, b, d⟩ => ⟨a, d, _, b, h00, cq.rf _⟩)⟩
              · rw [cro_o (b2 := fun p => if p = 16 then bl 16 else bl p) (bl := bl) (if_neg (by decide))]; omega
              · obtain ⟨b, d⟩ := cI_k1 h hS (h7.trans h21.symm) k10 k11 eM e5 hRS
                exact ⟨a, by omega, by rw [b]; exact d⟩
      · exact cSs_1 (cSx_q (by decide) (by decide) (Or.inl rfl) (ct_X10_clock_b l G hst h64 (fun q => hn (by rw [← k2]; exact cx_it_t q.2))) (fun R s2 => ct_X11_clock_b3 l G hx hy hn))
    · exact cSs_1 (cSx_q (by decide) (by decide) (Or.inl rfl) (ct_X10_clock_b l G hst h64 (fun q => hy (cx_ip_t q.1).2)) (fun R s2 => ct_X11_clock_b2 l G hx hy))
  · exact cSs_1 (cSx_q (by decide) (by decide) (Or.inl rfl) (ct_X10_clock_b l G hst h64 (fun q => hx (cx_ip_t q.1).1)) (fun R s2 => ct_X11_clock_b1 l G hx))

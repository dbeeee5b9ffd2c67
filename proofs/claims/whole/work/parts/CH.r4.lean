/-! FORETELLING, both ways: one clock that goes alone, and all that go -/
theorem ck_go_f {S : ck_S} {k j : Nat} (h49 : ¬ S.1 49 = 0) (hne : ¬ nI k = S.1 50) (hj : j = 51 ∨ j = 52) : (ck_go S k).1 j = S.1 j := by
  refine ck_go_by S k (fun T => T.1 j = S.1 j) (fun _ => rfl) (fun _ _ => rfl) (fun _ _ _ _ _ _ => ck_sn_M (by omega) (by omega)) ?_
  intro n A2 t s h e1 e2
  show (ck_kp (ck_sn S.1 A2 k t).2.1 (ck_sn S.1 A2 k t).2.2 (nI k) s).1 j = S.1 j
  unfold ck_kp
  rw [if_neg (by rw [ck_sn_M (by decide) (by decide)]; exact h49), if_neg (by rw [ck_sn_M (by decide) (by decide)]; exact hne)]
  exact ck_sn_M (by omega) (by omega)
def cF (S : ck_S) (V T Q Fo St Al C : Nat → Int32) (d : Int64) (c mi : Nat) : Prop :=
  cR_v S.2.1 c V T Q Fo St ∧ ck_ci S.2.1 S.2.2 c ∧ cR_i S.2.1 c ∧ ck_wo S.1 S.2.1 ∧ S.1 1 = nI mi ∧ ¬ S.1 49 = 0 ∧ S.1 50 = nI c ∧ Al 3 = S.1 2 ∧ Al 1 = S.1 3 ∧ d = S.2.2 116 c ∧
  C 4 = S.2.1 111 c ∧ C 5 = S.2.1 112 c ∧ C 6 = S.2.1 108 c ∧ C 7 = S.2.1 109 c ∧ (¬ S.2.1 117 c = 0 → C 8 = S.2.1 110 c) ∧ C 9 = S.2.1 115 c ∧ C 10 = S.2.1 113 c / 1440
theorem cF_s {S : ck_S} {V T Q Fo St Al C : Nat → Int32} {d : Int64} {c cl mi : Nat} (h : cF S V T Q Fo St Al C d c mi) (hc : c < cl) (hcl : cl ≤ 8) (hmi : mi < 100000) :
    ∃ lf a mo : Nat, (V 12 = 0 → cx_fw Fo St (fun j => S.2.1 106 (400 * c + j)) (fun j => S.2.1 107 (400 * c + j)) (S.2.1 105 c).toNatClampNeg) ∧ d = lN a ∧ a < 86400000000 ∧ C 6 = nI lf ∧ lf ≤ 44640 ∧ 60000000 + 60 * (cx_rt V C Al (S.2.1 94) mi).toInt64 = lN mo ∧ (56000000 ≤ mo ∧ mo ≤ 64000000) ∧
      ∀ (S1 S2 : Nat → Int32) (d2 : Int64) (C2 : Nat → Int32), cx_gm V T Q (fun j => S.2.1 106 (400 * c + j)) (fun j => S.2.1 107 (400 * c + j)) S1 C (S.2.1 105 c).toNatClampNeg (Al 1) lf a mo = (S2, d2, C2) →
        cF (ck_mn S cl) V T Q Fo St Al C2 d2 c (mi + 1) ∧ (ck_mn S cl).2.1 94 = S.2.1 94 ∧ (ck_mn S cl).1 52 = S.1 52 + (if C2 15 = 0 then 0 else C2 13 + C2 14) ∧
        ((if C2 15 = 0 then 0 else C2 13 + C2 14) ≤ 0 → (ck_mn S cl).1 51 = S.1 51 + 0) ∧ (¬ (if C2 15 = 0 then 0 else C2 13 + C2 14) ≤ 0 → (ck_mn S cl).1 51 = S.1 51 + 1) := by
  obtain ⟨hv, hci, hi, hwo, hM1, h49, h50, al3, al1, hd, u4, u5, u6, u7, u8, u9, u10⟩ := h
  obtain ⟨hwf, hrg, hdl⟩ := id hci
  obtain ⟨a, ha, ea⟩ := hdl
  obtain ⟨lf, hlf, elf⟩ : ∃ lf : Nat, lf ≤ 44640 ∧ S.2.1 108 c = nI lf := by
    obtain ⟨-, -, -, -, -, -, ⟨run, lf, r1, r2, -, r4, r5⟩, -⟩ := hrg
    exact ⟨lf, by omega, r4⟩
  obtain ⟨mo, m1, m2, m3⟩ := ck_more_ok hwo hrg hM1 (by omega)
  have hrt := cx_rt_eq (M := S.1) (Al := Al) (Wm := S.2.1 94) (mi := mi) hv hrg u6 u9 u10 al3 rfl hM1 (by omega)
  refine ⟨lf, a, mo, fun hv0 => ?_, hd.trans ea, ha, u6.trans elf, hlf, by rw [hrt]; exact m3, ⟨m1, m2⟩, fun S1 S2 d2 C2 he => ?_⟩
  · have h117 : S.2.1 117 c = 0 := by rw [← hv.2.2.1]; exact hv0
    exact hv.2.2.2.2 h117
  -- the MINUTE of all clocks
  have hmg : ck_mgA S cl = S.2.1 := by
    unfold ck_mgA
    rw [if_neg (fun z => h49 z.2)]
  have e1 : ck_mn1 (S.1 1) = mi := by unfold ck_mn1; rw [hM1]; exact nI_clamp (by omega)
  have hmn : ck_mn S cl = (upd (ck_gs S cl).1 1 (nI (mi + 1)), (ck_gs S cl).2) := by
    unfold ck_mn
    rw [hmg, e1]
  have gM : ∀ n j, j ≠ 22 → j ≠ 51 → j ≠ 52 → j ≠ 47 → j ≠ 48 → (ck_gs S n).1 j = S.1 j := fun n j h1 h2 h3 h4 h5 => ck_gs_M h1 h2 h3 h4 h5 n
  have gA : ∀ n q, (q < 108 ∨ 112 < q) → q ≠ 123 → (ck_gs S n).2.1 q = S.2.1 q := fun n q h1 h2 => ck_gs_Af h49 ⟨h1, h2⟩ n
  have gci : ∀ n, ck_ci (ck_gs S n).2.1 (ck_gs S n).2.2 c := by
    intro n
    induction n with
    | zero => exact hci
    | succ n ih => exact ck_go_ci ih
  have gwo : ∀ n, ck_wo (ck_gs S n).1 (ck_gs S n).2.1 := by
    intro n
    induction n with
    | zero => exact hwo
    | succ n ih => exact ck_go_wo ih
  have g51 : ∀ n, n ≤ c → (ck_gs S n).1 51 = S.1 51 ∧ (ck_gs S n).1 52 = S.1 52 := by
    intro n
    induction n with
    | zero => intro _; exact ⟨rfl, rfl⟩
    | succ n ih =>
      intro hn
      obtain ⟨i1, i2⟩ := ih (by omega)
      have n49 : ¬ (ck_gs S n).1 49 = 0 := by rw [gM n 49 (by decide) (by decide) (by decide) (by decide) (by decide)]; exact h49
      have n50 : ¬ nI n = (ck_gs S n).1 50 := by
        rw [gM n 50 (by decide) (by decide) (by decide) (by decide) (by decide), h50]
        exact fun z => by have := (nI_eq (by omega) (by omega)).mp z; omega
      exact ⟨(ck_go_f n49 n50 (Or.inl rfl)).trans i1, (ck_go_f n49 n50 (Or.inr rfl)).trans i2⟩
  have agc : cR_ag S.2.1 (ck_gs S c).2.1 c := ⟨fun q hq => by
      by_cases e : 108 ≤ q ∧ q ≤ 112
      · exact ck_gs_j ⟨by omega, by omega⟩ c (Nat.le_refl _)
      · rw [gA c q (by omega) (by omega)],
    fun j _ => by rw [gA c 102 (by omega) (by decide)], fun j _ => by rw [gA c 104 (by omega) (by decide)], fun j _ => ⟨by rw [gA c 106 (by omega) (by decide)], by rw [gA c 107 (by omega) (by decide)]⟩, fun j _ => by rw [gA c 122 (by omega) (by decide)]⟩
  have gLc : (ck_gs S c).2.2 116 c = S.2.2 116 c := ck_gs_Lj c (Nat.le_refl _)
  have hvT := cR_v_ag hwf hv agc
  have hiT := cR_i_ag hwf hi agc
  have hwT := ck_wf_ag hwf agc
  have e0 : ∀ q, (100 ≤ q ∧ q ≤ 117 ∧ q ≠ 102 ∧ q ≠ 104 ∧ q ≠ 106 ∧ q ≠ 107) → (ck_gs S c).2.1 q c = S.2.1 q c := agc.1
  obtain ⟨TT, hTT⟩ : ∃ TT, TT = ck_gs S c := ⟨_, rfl⟩
  have he' : cx_gm V T Q (fun j => TT.2.1 106 (400 * c + j)) (fun j => TT.2.1 107 (400 * c + j)) S1 C (TT.2.1 105 c).toNatClampNeg (TT.1 3) lf a mo = (S2, d2, C2) := by
    rw [hTT, gA c 106 (by omega) (by decide), gA c 107 (by omega) (by decide), gA c 105 (by omega) (by decide), gM c 3 (by decide) (by decide) (by decide) (by decide) (by decide), ← al1]
    exact he
  have m3' : ck_more TT.1 TT.2.1 c = lN mo := by
    have hrgT := ck_rg_ag hrg agc
    rw [← hTT] at hvT hrgT
    have := cx_rt_eq (M := TT.1) (Al := Al) (Wm := S.2.1 94) (mi := mi) hvT hrgT (by rw [hTT, e0 108 (by omega)]; exact u6) (by rw [hTT, e0 115 (by omega)]; exact u9) (by rw [hTT, e0 113 (by omega)]; exact u10) (by rw [hTT, gM c 2 (by decide) (by decide) (by decide) (by decide) (by decide)]; exact al3) (by rw [hTT, gA c 94 (by omega) (by decide)]) (by rw [hTT, gM c 1 (by decide) (by decide) (by decide) (by decide) (by decide)]; exact hM1) (by omega)
    unfold ck_more
    rw [← this, hrt]
    exact m3
  obtain ⟨g1, g4, g5, g6, g7, g8, gC, gI, x, y, hx, hy, g13, g14, gor⟩ := cx_gm_eq (S := TT) (i := c) (by rw [hTT]; exact hvT) (by rw [hTT]; exact hwT) (by rw [hTT]; exact hiT) (by rw [hTT, e0 111 (by omega)]; exact u4) (by rw [hTT, e0 112 (by omega)]; exact u5) (by rw [hTT, e0 108 (by omega)]; exact u6) (by rw [hTT, e0 109 (by omega)]; exact u7) (by rw [hTT, e0 117 (by omega), e0 110 (by omega)]; exact u8) (by rw [hTT, e0 108 (by omega)]; exact elf) hlf (by rw [hTT, gLc]; exact ea) ha m3' ⟨m1, m2⟩ he'
  have hU : ck_go TT c = ck_gs S (c + 1) := by rw [hTT]; rfl
  have t49 : ¬ TT.1 49 = 0 := by rw [hTT, gM c 49 (by decide) (by decide) (by decide) (by decide) (by decide)]; exact h49
  have t50 : nI c = TT.1 50 := by rw [hTT, gM c 50 (by decide) (by decide) (by decide) (by decide) (by decide)]; exact h50.symm
  have t51 : TT.1 51 = S.1 51 ∧ TT.1 52 = S.1 52 := by rw [hTT]; exact g51 c (Nat.le_refl _)
  have t117 : TT.2.1 117 c = S.2.1 117 c := by rw [hTT]; exact e0 117 (by omega)
  rw [hU] at g1 g4 g5 g6 g7 g8 gI gor
  rw [t117] at g8
  -- what comes behind leaves clock c
  have back : ∀ n, c + 1 ≤ n → n ≤ cl → (∀ q, (q < 118 ∨ 121 < q) → q ≠ 123 → (ck_gs S n).2.1 q c = (ck_gs S (c + 1)).2.1 q c) ∧ (ck_gs S n).2.2 116 c = (ck_gs S (c + 1)).2.2 116 c ∧ (ck_gs S n).1 51 = (ck_gs S (c + 1)).1 51 ∧ (ck_gs S n).1 52 = (ck_gs S (c + 1)).1 52 := by
    intro n
    induction n with
    | zero => intro h; omega
    | succ n ih =>
      intro h1 h2
      by_cases e : n = c
      · rw [e]; exact ⟨fun _ _ _ => rfl, rfl, rfl, rfl⟩
      · obtain ⟨i1, i2, i3, i4⟩ := ih (by omega) (by omega)
        have n49 : ¬ (ck_gs S n).1 49 = 0 := by rw [gM n 49 (by decide) (by decide) (by decide) (by decide) (by decide)]; exact h49
        have n50 : ¬ nI n = (ck_gs S n).1 50 := by
          rw [gM n 50 (by decide) (by decide) (by decide) (by decide) (by decide), h50]
          exact fun z => by have := (nI_eq (by omega) (by omega)).mp z; omega
        exact ⟨fun q q1 q2 => (ck_go_j (fun z => e z.symm) ⟨q1, q2⟩).trans (i1 q q1 q2), (ck_go_Lj (fun z => e z.symm)).trans i2, (ck_go_f n49 n50 (Or.inl rfl)).trans i3, (ck_go_f n49 n50 (Or.inr rfl)).trans i4⟩
  obtain ⟨b1, b2, b3, b4⟩ := back cl (by omega) (Nat.le_refl _)
  have e117 : (ck_gs S cl).2.1 117 c = S.2.1 117 c := by rw [gA cl 117 (by omega) (by decide)]
  have hwo' := gwo cl
  have hci' := gci cl
  have gA' := gA cl
  have gM' := gM cl
  rw [hmn]
  generalize ck_gs S cl = W at b1 b2 b3 b4 e117 hwo' hci' gA' gM' ⊢
  have agW : cR_i W.2.1 c := by
    have : cR_ag (ck_gs S (c + 1)).2.1 W.2.1 c := ⟨fun q hq => b1 q (by omega) (by omega), fun j _ => by rw [gA' 102 (by omega) (by decide), gA (c + 1) 102 (by omega) (by decide)], fun j _ => by rw [gA' 104 (by omega) (by decide), gA (c + 1) 104 (by omega) (by decide)], fun j _ => ⟨by rw [gA' 106 (by omega) (by decide), gA (c + 1) 106 (by omega) (by decide)], by rw [gA' 107 (by omega) (by decide), gA (c + 1) 107 (by omega) (by decide)]⟩, fun j _ => by rw [gA' 122 (by omega) (by decide), gA (c + 1) 122 (by omega) (by decide)]⟩
    exact cR_i_ag (gci (c + 1)).1 gI this
  have hvW : cR_v W.2.1 c V T Q Fo St := by
    unfold cR_v at hv ⊢
    rw [gA' 102 (by omega) (by decide), gA' 103 (by omega) (by decide), gA' 104 (by omega) (by decide), gA' 105 (by omega) (by decide), gA' 106 (by omega) (by decide), gA' 107 (by omega) (by decide), gA' 117 (by omega) (by decide)]
    exact hv
  have mo1 : ∀ j, ¬ j = 1 → upd W.1 1 (nI (mi + 1)) j = W.1 j := fun j hj => pk_un hj
  have hxy : ∀ n : Nat, n < 2 ^ 31 → (nI n ≤ 0 ↔ n = 0) := fun n hn => by
    rw [Int32.le_iff_toInt_le, nI_toInt hn, show (0 : Int32).toInt = 0 from rfl]
    omega
  refine ⟨⟨hvW, hci', agW, ?_, (show upd W.1 1 (nI (mi + 1)) 1 = nI (mi + 1) from pk_us), ?_, ?_, ?_, ?_, ?_, ?_, ?_, ?_, ?_, fun h0 => ?_, ?_, ?_⟩, gA' 94 (by omega) (by decide), ?_⟩
  · show ck_wo (upd W.1 1 (nI (mi + 1))) W.2.1
    unfold ck_wo
    rw [mo1 2 (by decide)]
    exact hwo'
  · show ¬ upd W.1 1 (nI (mi + 1)) 49 = 0
    rw [mo1 49 (by decide), gM' 49 (by decide) (by decide) (by decide) (by decide) (by decide)]; exact h49
  · show upd W.1 1 (nI (mi + 1)) 50 = nI c
    rw [mo1 50 (by decide), gM' 50 (by decide) (by decide) (by decide) (by decide) (by decide)]; exact h50
  · show Al 3 = upd W.1 1 (nI (mi + 1)) 2
    rw [mo1 2 (by decide), gM' 2 (by decide) (by decide) (by decide) (by decide) (by decide)]; exact al3
  · show Al 1 = upd W.1 1 (nI (mi + 1)) 3
    rw [mo1 3 (by decide), gM' 3 (by decide) (by decide) (by decide) (by decide) (by decide)]; exact al1
  · exact g1.trans b2.symm
  · exact g4.trans (b1 111 (by omega) (by decide)).symm
  · exact g5.trans (b1 112 (by omega) (by decide)).symm
  · exact g6.trans (b1 108 (by omega) (by decide)).symm
  · exact g7.trans (b1 109 (by omega) (by decide)).symm
  · have h0 : ¬ W.2.1 117 c = 0 := h0
    rw [e117] at h0
    exact (g8 h0).trans (b1 110 (by omega) (by decide)).symm
  · show C2 9 = W.2.1 115 c
    rw [gC 9 (by omega), gA' 115 (by omega) (by decide)]; exact u9
  · show C2 10 = W.2.1 113 c / 1440
    rw [gC 10 (by omega), gA' 113 (by omega) (by decide)]; exact u10
  · show upd W.1 1 (nI (mi + 1)) 52 = _ ∧ (_ → upd W.1 1 (nI (mi + 1)) 51 = _) ∧ (_ → upd W.1 1 (nI (mi + 1)) 51 = _)
    rw [mo1 51 (by decide), mo1 52 (by decide), b3, b4, ← t51.1, ← t51.2]
    rcases gor with ⟨gz, gM2, -⟩ | ⟨g15, gpos, sec, hsec, e12, -, gk⟩
    · have e : (if C2 15 = 0 then 0 else C2 13 + C2 14) = 0 := by
        by_cases c9 : C2 15 = 0
        · rw [if_pos c9]
        · rw [if_neg c9, g13, g14, nI_add, gz.resolve_left c9]; rfl
      rw [e, gM2 51 (by decide) (by decide), gM2 52 (by decide) (by decide), Int32.add_zero, Int32.add_zero]
      exact ⟨rfl, fun _ => rfl, fun z => absurd (Int32.le_refl 0) z⟩
    · obtain ⟨k51, k52⟩ := gk t49 t50
      have e : (if C2 15 = 0 then 0 else C2 13 + C2 14) = nI x + nI y := by rw [g15, if_neg (by decide), g13, g14]
      rw [e, k51, k52]
      refine ⟨rfl, fun z => ?_, fun _ => rfl⟩
      exfalso
      rw [nI_add, hxy _ (by omega)] at z
      omega
/-- where foretelling begins, both ways -/
theorem cF_0 {P : kx_P} {M : Nat → Int32} {A : Nat → Nat → Int32} {L : Nat → Nat → Int64} {cl mi sd c : Nat} {V T Q Fo St Al C C1 : Nat → Int32} (hm : cR_m M A L cl mi sd) (hc : c < cl) (hv : cR_v A c V T Q Fo St) (hC : cR_C A c C) (al1 : Al 1 = M 3) (al3 : Al 3 = M 2)
    (h1 : C1 = upd (upd (upd (upd (upd (upd (upd (fun _ => 0) 4 (C 4)) 5 (C 5)) 6 (C 6)) 7 (C 7)) 8 (C 8)) 9 (C 9)) 10 (C 10) ∨ ∃ C0, C1 = upd (upd (upd (upd (upd (upd (upd C0 4 (C 4)) 5 (C 5)) 6 (C 6)) 7 (C 7)) 8 (C 8)) 9 (C 9)) 10 (C 10)) : cF (ck_fS M A L cl c) V T Q Fo St Al C1 (L 116 c) c mi ∧ (ck_fS M A L cl c).2.1 94 = A 94 := by
  obtain ⟨C0, h1⟩ : ∃ C0, C1 = upd (upd (upd (upd (upd (upd (upd C0 4 (C 4)) 5 (C 5)) 6 (C 6)) 7 (C 7)) 8 (C 8)) 9 (C 9)) 10 (C 10) := h1.elim (fun h => ⟨_, h⟩) id
  have svA : ∀ k, k < 137 → ck_svA A cl k = A k := fun k hk => ck_svA_n (by omega)
  obtain ⟨u0, u1, u4, u5, u6, u7, u8, u9, u10⟩ := hC
  obtain ⟨⟨q1, q2, q3⟩, q4⟩ := hm.2.2.2.2.2.2.2.2.2.2.2.2.1 c hc
  have e8 := hm.2.2.2.2.2.2.2.2.1
  unfold cF ck_fS
  dsimp only
  refine ⟨⟨?_, ⟨?_, ?_, ?_⟩, ?_, ?_, hm.2.2.2.1, by show ¬ (1 : Int32) = 0; decide, rfl, al3, al1, ?_, ?_, ?_, ?_, ?_, fun h0 => ?_, ?_, ?_⟩, svA 94 (by omega)⟩
  · unfold cR_v at hv ⊢
    rw [svA 102 (by omega), svA 103 (by omega), svA 104 (by omega), svA 105 (by omega), svA 106 (by omega), svA 107 (by omega), svA 117 (by omega)]
    exact hv
  · unfold ck_wf at q1 ⊢
    rw [svA 102 (by omega), svA 103 (by omega), svA 105 (by omega), svA 106 (by omega), svA 110 (by omega), svA 117 (by omega)]
    exact q1
  · unfold ck_rg at q2 ⊢
    rw [svA 102 (by omega), svA 108 (by omega), svA 113 (by omega), svA 115 (by omega)]
    exact q2
  · unfold ck_dl at q3 ⊢
    rw [va_upn (by decide)]
    exact q3
  · unfold cR_i at q4 ⊢
    rw [svA 102 (by omega), svA 103 (by omega), svA 104 (by omega), svA 105 (by omega), svA 109 (by omega), svA 111 (by omega), svA 112 (by omega), svA 114 (by omega), svA 117 (by omega), svA 100 (by omega), svA 101 (by omega)]
    exact q4
  · unfold ck_wo at e8 ⊢
    rw [svA 94 (by omega)]
    exact e8
  · rw [va_upn (by decide)]
  · rw [h1, svA 111 (by omega)]; exact u4
  · rw [h1, svA 112 (by omega)]; exact u5
  · rw [h1, svA 108 (by omega)]; exact u6
  · rw [h1, svA 109 (by omega)]; exact u7
  · rw [svA 117 (by omega)] at h0
    rw [h1, svA 110 (by omega)]; exact u8 h0
  · rw [h1, svA 115 (by omega)]; exact u9
  · rw [h1, svA 113 (by omega)]; exact u10
/-! the ghost moved: the class stands as before -/
theorem cR_af_g {P : kx_P} {M : Nat → Int32} {A : Nat → Nat → Int32} {L : Nat → Nat → Int64} {cl mi sd se sz c : Nat} {bl : Nat → Nat} (hst : cR_st P M A cl se bl) (hdy : cR_dy P A L cl se sz bl (fun _ => mi)) (hm : cR_m M A L cl mi sd) (hc : c < cl) (S1 C1 : Nat → Int32) (d : Int64) (gh : Value) : cR_af P (cW P 70 (bl c) S1 d gh C1) (M, A, L) cl mi se sz bl := by
  have hcl : cl ≤ 8 := hm.2.2.1
  obtain ⟨hB, hcc, hsp, hno, hnn⟩ := hdy
  have b1 := hB.w hcl hc
  have q0 : ∀ n, ¬ n = 70 → ¬ n = bl c + 5 → cW P 70 (bl c) S1 d gh C1 n = P n := fun n h1 h2 => cW_o h1 h2
  have q : ∀ n, n < 93 → ¬ n = 70 → cW P 70 (bl c) S1 d gh C1 n = P n := fun n h1 h2 => q0 n h2 (by omega)
  have h70 : cW P 70 (bl c) S1 d gh C1 70 = kO 1 (kf (cr1 (.ref (bl c)) d gh) C1) := cW_c
  have h5 : cW P 70 (bl c) S1 d gh C1 (bl c + 5) = kI 0 64 S1 := by
    unfold cW
    rw [ks_ne (by omega), ks_eq]
  generalize cW P 70 (bl c) S1 d gh C1 = P2 at q0 q h70 h5 ⊢
  refine ⟨sd, hm, ?_, ⟨hB, fun i hi => ?_, fun h0 => ?_, fun h0 => ?_, fun n hn => ?_⟩, fun n hn => ?_⟩
  · show cR_st P2 M A cl se bl
    obtain ⟨p64, p65, p66, p67, p68, p69, p70, p71, p72, p76, p77, p78, p79, p80, p81, p82, p83, p84, p85, p89, p90, p1, p2⟩ := id hst
    unfold cR_st
    unfold cx_SR at p72 ⊢
    rw [q 64 (by omega) (by omega), q 65 (by omega) (by omega), q 66 (by omega) (by omega), q 67 (by omega) (by omega), q 68 (by omega) (by omega), q 69 (by omega) (by omega), q 71 (by omega) (by omega), q 72 (by omega) (by omega), q 73 (by omega) (by omega), q 74 (by omega) (by omega), q 75 (by omega) (by omega), q 76 (by omega) (by omega), q 77 (by omega) (by omega), q 78 (by omega) (by omega), q 79 (by omega) (by omega), q 80 (by omega) (by omega), q 81 (by omega) (by omega), q 82 (by omega) (by omega), q 83 (by omega) (by omega), q 84 (by omega) (by omega), q 85 (by omega) (by omega), q 86 (by omega) (by omega), q 87 (by omega) (by omega), q 88 (by omega) (by omega), q 89 (by omega) (by omega), q 90 (by omega) (by omega), q 91 (by omega) (by omega), q 92 (by omega) (by omega), q 1 (by omega) (by omega), q 2 (by omega) (by omega)]
    exact ⟨p64, p65, p66, p67, p68, p69, ⟨_, _, _, _, h70⟩, p71, p72, p76, p77, p78, p79, p80, p81, p82, p83, p84, p85, p89, p90, p1, p2⟩
  · show cR_c P2 A L i (bl (8 + i)) (bl i) mi
    have hci : cR_c P A L i (bl (8 + i)) (bl i) mi := hcc i hi
    have b4 := hB.w hcl hi
    have b5 := hB.c hcl hi
    have b8 := hB.wc hcl hc hi
    by_cases e : i = c
    · rw [e] at hci ⊢
      rw [e] at b5 b8
      obtain ⟨V, T, Q, Fo, St, S, C, Kp, ⟨w0, w1, w2, w3, w4, w5⟩, h2, h3, h4, h5', h6⟩ := hci
      refine ⟨V, T, Q, Fo, St, S1, C, Kp, ⟨?_, ?_, ?_, ?_, ?_, h5⟩, ?_, ?_, h4, h5', h6⟩
      · rw [q0 _ (by omega) (by omega)]; exact w0
      · rw [q0 _ (by omega) (by omega)]; exact w1
      · rw [q0 _ (by omega) (by omega)]; exact w2
      · rw [q0 _ (by omega) (by omega)]; exact w3
      · rw [q0 _ (by omega) (by omega)]; exact w4
      · rw [q0 _ (by omega) (by omega)]; exact h2
      · rw [q0 _ (by omega) (by omega)]; exact h3
    · have b6 := hB.ww hcl hi hc e
      exact cR_c_fr hci (hm.2.2.2.2.2.2.2.2.2.2.2.2.1 i hi).1.1 (fun n hn => q0 n (by omega) (by omega)) (cR_ag.rf _ i) rfl
  · obtain ⟨V9, T9, Q9, Fo9, St9, S9, hw9⟩ := hsp h0
    have b4 := hB.s h0
    have b5 := hB.sw hcl hc h0
    exact ⟨V9, T9, Q9, Fo9, St9, S9, cR_w_fr hw9 (fun n n1 n2 => q0 n (by omega) (by omega))⟩
  · have b4 := hB.n h0
    have b5 := hB.nw hcl hc h0
    rw [q0 _ (by omega) (by omega)]
    exact hno h0
  · have := hB.1
    rw [q0 n (by omega) (by omega)]
    exact hnn n hn
  · exact q0 n (by omega) (by omega)

/-! A MINUTE, both ways: what the class's loop over the clocks keeps -/
theorem cR_len_w {i : Nat} (h : i < 8) : cR_len i = 6 := by unfold cR_len; rw [if_pos h]
theorem cR_len_c {i : Nat} (h : i < 8) : cR_len (8 + i) = 2 := by unfold cR_len; rw [if_neg (by omega), if_pos (by omega)]
theorem cR_B.w {bl : Nat → Nat} {cl sz i : Nat} (h : cR_B bl cl sz) (hcl : cl ≤ 8) (hi : i < cl) : ¬ bl i = 0 ∧ 144 ≤ bl i ∧ bl i + 6 ≤ sz := by
  have h0 := (h.2.2.2 i (by omega)).1.mpr hi
  have := h.2.1 i (by omega) h0
  rw [cR_len_w (by omega)] at this
  exact ⟨h0, this⟩
theorem cR_B.c {bl : Nat → Nat} {cl sz i : Nat} (h : cR_B bl cl sz) (hcl : cl ≤ 8) (hi : i < cl) : ¬ bl (8 + i) = 0 ∧ 144 ≤ bl (8 + i) ∧ bl (8 + i) + 2 ≤ sz := by
  have h0 := (h.2.2.2 i (by omega)).2.mpr hi
  have := h.2.1 (8 + i) (by omega) h0
  rw [cR_len_c (by omega)] at this
  exact ⟨h0, this⟩
theorem cR_B.wc {bl : Nat → Nat} {cl sz i j : Nat} (h : cR_B bl cl sz) (hcl : cl ≤ 8) (hi : i < cl) (hj : j < cl) : bl i + 6 ≤ bl (8 + j) ∨ bl (8 + j) + 2 ≤ bl i := by
  have := h.2.2.1 i (8 + j) (by omega) (by omega) (by omega) (h.w hcl hi).1 (h.c hcl hj).1
  rw [cR_len_w (by omega), cR_len_c (by omega)] at this
  exact this
theorem cR_B.ww {bl : Nat → Nat} {cl sz i j : Nat} (h : cR_B bl cl sz) (hcl : cl ≤ 8) (hi : i < cl) (hj : j < cl) (hij : ¬ i = j) : bl i + 6 ≤ bl j ∨ bl j + 6 ≤ bl i := by
  have := h.2.2.1 i j (by omega) (by omega) hij (h.w hcl hi).1 (h.w hcl hj).1
  rw [cR_len_w (by omega), cR_len_w (by omega)] at this
  exact this
theorem cR_B.cc {bl : Nat → Nat} {cl sz i j : Nat} (h : cR_B bl cl sz) (hcl : cl ≤ 8) (hi : i < cl) (hj : j < cl) (hij : ¬ i = j) : bl (8 + i) + 2 ≤ bl (8 + j) ∨ bl (8 + j) + 2 ≤ bl (8 + i) := by
  have := h.2.2.1 (8 + i) (8 + j) (by omega) (by omega) (by omega) (h.c hcl hi).1 (h.c hcl hj).1
  rw [cR_len_c (by omega), cR_len_c (by omega)] at this
  exact this
theorem cR_B.sw {bl : Nat → Nat} {cl sz i : Nat} (h : cR_B bl cl sz) (hcl : cl ≤ 8) (hi : i < cl) (h0 : ¬ bl 16 = 0) : bl i + 6 ≤ bl 16 ∨ bl 16 + 6 ≤ bl i := by
  have := h.2.2.1 i 16 (by omega) (by omega) (by omega) (h.w hcl hi).1 h0
  rw [cR_len_w (by omega), show cR_len 16 = 6 from rfl] at this
  exact this
theorem cR_B.sc {bl : Nat → Nat} {cl sz i : Nat} (h : cR_B bl cl sz) (hcl : cl ≤ 8) (hi : i < cl) (h0 : ¬ bl 16 = 0) : bl (8 + i) + 2 ≤ bl 16 ∨ bl 16 + 6 ≤ bl (8 + i) := by
  have := h.2.2.1 (8 + i) 16 (by omega) (by omega) (by omega) (h.c hcl hi).1 h0
  rw [cR_len_c (by omega), show cR_len 16 = 6 from rfl] at this
  exact this
theorem cR_B.nw {bl : Nat → Nat} {cl sz i : Nat} (h : cR_B bl cl sz) (hcl : cl ≤ 8) (hi : i < cl) (h0 : ¬ bl 17 = 0) : bl i + 6 ≤ bl 17 ∨ bl 17 + 1 ≤ bl i := by
  have := h.2.2.1 i 17 (by omega) (by omega) (by omega) (h.w hcl hi).1 h0
  rw [cR_len_w (by omega), show cR_len 17 = 1 from rfl] at this
  exact this
theorem cR_B.nc {bl : Nat → Nat} {cl sz i : Nat} (h : cR_B bl cl sz) (hcl : cl ≤ 8) (hi : i < cl) (h0 : ¬ bl 17 = 0) : bl (8 + i) + 2 ≤ bl 17 ∨ bl 17 + 1 ≤ bl (8 + i) := by
  have := h.2.2.1 (8 + i) 17 (by omega) (by omega) (by omega) (h.c hcl hi).1 h0
  rw [cR_len_c (by omega), show cR_len 17 = 1 from rfl] at this
  exact this
theorem cR_B.sn {bl : Nat → Nat} {cl sz : Nat} (h : cR_B bl cl sz) (h0 : ¬ bl 16 = 0) (h1 : ¬ bl 17 = 0) : bl 16 + 6 ≤ bl 17 ∨ bl 17 + 1 ≤ bl 16 := by
  have := h.2.2.1 16 17 (by omega) (by omega) (by omega) h0 h1
  rw [show cR_len 16 = 6 from rfl, show cR_len 17 = 1 from rfl] at this
  exact this
theorem cR_B.s {bl : Nat → Nat} {cl sz : Nat} (h : cR_B bl cl sz) (h0 : ¬ bl 16 = 0) : 144 ≤ bl 16 ∧ bl 16 + 6 ≤ sz := h.2.1 16 (by omega) h0
theorem cR_B.n {bl : Nat → Nat} {cl sz : Nat} (h : cR_B bl cl sz) (h0 : ¬ bl 17 = 0) : 144 ≤ bl 17 ∧ bl 17 + 1 ≤ sz := h.2.1 17 (by omega) h0
/-- the reference's cells, the out row and the script are let be -/
def cR_fx (P P2 : kx_P) : Prop := ∀ n, (n = 3 ∨ (93 ≤ n ∧ n < 144)) → P2 n = P n
theorem cR_fx.rf (P : kx_P) : cR_fx P P := fun _ _ => rfl
theorem cR_fx.tr {P P2 P3 : kx_P} (h : cR_fx P P2) (h2 : cR_fx P2 P3) : cR_fx P P3 := fun n hn => (h2 n hn).trans (h n hn)
/-- what cx_R wants of clock i -/
theorem cR_c_R {P : kx_P} {A : Nat → Nat → Int32} {bl : Nat → Nat} {cl sz i : Nat} {V T Q Fo St S Al : Nat → Int32} (hB : cR_B bl cl sz) (hcl : cl ≤ 8) (hi : i < cl) (hw : cR_w P (bl i) V T Q Fo St S) (hA : P 65 = kO 0 (kf cr0 Al)) (h66 : P 66 = kI 0 1700 (A 94)) (h1 : P 1 = kI 5 12 cj_md) : cx_R P (bl (8 + i)) (bl i) V T Q Fo St Al (A 94) := by
  obtain ⟨a0, a1, a2, a3, a4, a5⟩ := hw
  have b1 := hB.w hcl hi
  have b2 := hB.c hcl hi
  have b3 := hB.wc hcl hi hi
  exact ⟨by omega, by omega, by omega, by omega, by omega, a0, a1, a2, a3, a4, hA, h66, h1⟩
def cR_L (P0 P : kx_P) (S : ck_S) (cl mi se sz : Nat) (bl : Nat → Nat) (k : Nat) : Prop :=
  cR_st P S.1 S.2.1 cl se bl ∧ cR_dy P S.2.1 S.2.2 cl se sz bl (fun i => if i < k then mi + 1 else mi) ∧ cR_fx P0 P ∧ S.1 1 = nI mi ∧ S.1 49 = 0 ∧ ck_wo S.1 S.2.1 ∧
  (∀ i, i < cl → cR_g S.2.1 S.2.2 i ∧ (S.2.1 114 i).toNatClampNeg ≤ mi) ∧ (∃ sd, S.1 22 = nI sd ∧ sd ≤ 8 * mi + k ∧ cR_so S.2.1 sd cl) ∧
  ∀ i, k ≤ i → i < cl → mi % 60 = 0 → S.2.1 122 (1700 * i + mi / 60) = (S.2.2 116 i / 1000).toInt32
theorem cR_ag_go {S : ck_S} {k i : Nat} (h : ¬ i = k) : cR_ag S.2.1 (ck_go S k).2.1 i :=
  ⟨fun q hq => ck_go_j h (by omega), fun j _ => by rw [ck_go_A (by omega)], fun j _ => by rw [ck_go_A (by omega)], fun j _ => ⟨by rw [ck_go_A (by omega)], by rw [ck_go_A (by omega)]⟩, fun j _ => by rw [ck_go_A (by omega)]⟩
theorem cR_kp_s {A : Nat → Nat → Int32} {i mi : Nat} {Kp : Nat → Int32} {x : Int32} (h : cR_kp A i mi Kp) (hc : (A 114 i).toNatClampNeg ≤ mi) (hx : mi % 60 = 0 → A 122 (1700 * i + mi / 60) = x) : cR_kp A i (mi + 1) (if mi % 60 = 0 then upd Kp (mi / 60) x else Kp) := by
  intro q hq
  by_cases h60 : mi % 60 = 0
  · rw [if_pos h60]
    by_cases e : q = mi / 60
    · rw [e, pk_us, if_pos ⟨by omega, by omega⟩]
      exact (hx h60).symm
    · rw [pk_un e, h q hq]
      have : (60 * q < mi ∧ (A 114 i).toNatClampNeg ≤ 60 * q) ↔ (60 * q < mi + 1 ∧ (A 114 i).toNatClampNeg ≤ 60 * q) := by omega
      simp only [this]
  · rw [if_neg h60, h q hq]
    have : (60 * q < mi ∧ (A 114 i).toNatClampNeg ≤ 60 * q) ↔ (60 * q < mi + 1 ∧ (A 114 i).toNatClampNeg ≤ 60 * q) := by omega
    simp only [this]
theorem cR_so_s {A A2 : Nat → Nat → Int32} {sd cl k mi sec x y : Nat} (h : cR_so A sd cl) (hk : k < cl) (hmi : mi < 100000) (hs : sec ≤ 59) (hx : x ≤ 16) (hy : y ≤ 24)
    (e1 : A2 118 = upd (A 118) (sd % 200) (nI k)) (e2 : A2 119 = upd (A 119) (sd % 200) (60 * nI mi + nI sec)) (e3 : A2 120 = upd (A 120) (sd % 200) (nI x)) (e4 : A2 121 = upd (A 121) (sd % 200) (nI y)) : cR_so A2 (sd + 1) cl := by
  intro i hi hi2
  rw [e1, e2, e3, e4]
  by_cases e : i = sd % 200
  · refine ⟨k, x + y, 60 * mi + sec, hk, ?_, ?_, by omega, ?_, by omega⟩
    · rw [e, pk_us]
    · rw [e, pk_us, pk_us, nI_add]
    · rw [e, pk_us, show (60 : Int32) = nI 60 from rfl, pk_mul, nI_add]
  · obtain ⟨ci, nn, a, h1, h2, h3, h4, h5, h6⟩ := h i hi (by omega)
    exact ⟨ci, nn, a, h1, by rw [pk_un e]; exact h2, by rw [pk_un e, pk_un e]; exact h3, h4, by rw [pk_un e]; exact h5, h6⟩
/-- one clock's MINUTE in the class's loop -/
theorem cR_L_s {P0 P : kx_P} {S : ck_S} {cl mi se sz : Nat} {bl : Nat → Nat} {k : Nat} (h : cR_L P0 P S cl mi se sz bl k) (hk : k < cl) (hcl : cl ≤ 8) (hmi : mi < 100000) :
    ∃ (V T Q Fo St S1 C Kp Al : Nat → Int32) (lf a mo : Nat), cx_R P (bl (8 + k)) (bl k) V T Q Fo St Al (S.2.1 94) ∧ (V 12 = 0 → cx_fw Fo St (fun j => S.2.1 106 (400 * k + j)) (fun j => S.2.1 107 (400 * k + j)) (S.2.1 105 k).toNatClampNeg) ∧
      S.2.2 116 k = lN a ∧ a < 86400000000 ∧ C 6 = nI lf ∧ lf ≤ 44640 ∧ 60000000 + 60 * (cx_rt V C Al (S.2.1 94) mi).toInt64 = lN mo ∧ (56000000 ≤ mo ∧ mo ≤ 64000000) ∧ Al 1 = S.1 3 ∧
      P (bl k + 5) = kI 0 64 S1 ∧ P (bl (8 + k)) = kO 1 (kf (cr1 (.ref (bl k)) (S.2.2 116 k) (.ref (bl (8 + k) + 1))) C) ∧ P (bl (8 + k) + 1) = kI 0 1667 Kp ∧
      ∀ (S2 : Nat → Int32) (d2 : Int64) (C2 : Nat → Int32), cx_gm V T Q (fun j => S.2.1 106 (400 * k + j)) (fun j => S.2.1 107 (400 * k + j)) S1 C (S.2.1 105 k).toNatClampNeg (S.1 3) lf a mo = (S2, d2, C2) →
        ∀ P1, P1 = cW (kx_set P (bl (8 + k) + 1) (kI 0 1667 (if mi % 60 = 0 then upd Kp (mi / 60) ((S.2.2 116 k / 1000).toInt32) else Kp))) (bl (8 + k)) (bl k) S2 d2 (.ref (bl (8 + k) + 1)) C2 →
        ((if C2 15 = 0 then 0 else C2 13 + C2 14) ≤ 0 → cR_L P0 P1 (ck_go S k) cl mi se sz bl (k + 1)) ∧
        (¬ (if C2 15 = 0 then 0 else C2 13 + C2 14) ≤ 0 → ∃ (F : Nat → Int32) (sd : Nat), P1 71 = kO 7 (kf cr7 F) ∧ F 4 = nI sd ∧ sd < 2 ^ 29 ∧ cx_SR P1 (S.2.1 118) (S.2.1 119) (S.2.1 120) (S.2.1 121) ∧
          cR_L P0 (kx_set (kx_set (kx_set (kx_set (kx_set P1 72 (kI 0 200 (upd (S.2.1 118) (sd % 200) (nI k)))) 73 (kI 0 200 (upd (S.2.1 119) (sd % 200) (60 * nI mi + C2 12)))) 74 (kI 0 200 (upd (S.2.1 120) (sd % 200) (C2 13)))) 75 (kI 0 200 (upd (S.2.1 121) (sd % 200) (C2 14)))) 71 (kO 7 (kf cr7 (upd F 4 (nI (sd + 1)))))) (ck_go S k) cl mi se sz bl (k + 1)) := by
  obtain ⟨hst, ⟨hB, hc, hsp, hno, hnn⟩, hfx, hM1, hM49, hwo, hg, ⟨sd, h22, hsd, hso⟩, hkh⟩ := h
  have hst0 := hst
  obtain ⟨p64, ⟨Al, p65, al0, al1, al3⟩, p66, p67, p68, p69, p70, ⟨F, p71, f4⟩, ⟨p72, p73, p74, p75⟩, p76, p77, p78, p79, p80, p81, p82, p83, p84, p85, p89, p90, p1, p2⟩ := hst
  obtain ⟨V, T, Q, Fo, St, S1, C, Kp, c1, c2, c3, c4, c5, c6⟩ := hc k hk
  have c6 : cR_kp S.2.1 k (if k < k then mi + 1 else mi) Kp := c6
  rw [if_neg (Nat.lt_irrefl k)] at c6
  obtain ⟨⟨⟨hwf, hrg, hdl⟩, hci⟩, hca⟩ := hg k hk
  obtain ⟨a, ha, ea⟩ := hdl
  obtain ⟨u0, u1, u4, u5, u6, u7, u8, u9, u10⟩ := id c5
  obtain ⟨lf, hlf, elf⟩ : ∃ lf : Nat, lf ≤ 44640 ∧ S.2.1 108 k = nI lf := by
    obtain ⟨-, -, -, -, -, -, ⟨run, lf, r1, r2, -, r4, r5⟩, -⟩ := hrg
    exact ⟨lf, by omega, r4⟩
  obtain ⟨mo, m1, m2, m3⟩ := ck_more_ok hwo hrg hM1 (by omega)
  have hrt := cx_rt_eq (M := S.1) (Al := Al) (Wm := S.2.1 94) (mi := mi) c4 hrg u6 u9 u10 al3 rfl hM1 (by omega)
  have b1 := hB.w hcl hk
  have b2 := hB.c hcl hk
  have b3 := hB.wc hcl hk hk
  refine ⟨V, T, Q, Fo, St, S1, C, Kp, Al, lf, a, mo, cR_c_R hB hcl hk c1 p65 p66 p1, fun hv0 => ?_, ea, ha, u6.trans elf, hlf, ?_, ⟨m1, m2⟩, al1, c1.2.2.2.2.2, c2, c3, fun S2 d2 C2 he P1 hP1 => ?_⟩
  · have h117 : S.2.1 117 k = 0 := by rw [← c4.2.2.1]; exact hv0
    exact c4.2.2.2.2 h117
  · rw [hrt]
    exact m3
  obtain ⟨g1, g4, g5, g6, g7, g8, gC, gI, x, y, hx, hy, g13, g14, gor⟩ := cx_gm_eq c4 hwf hci u4 u5 u6 u7 u8 elf hlf ea ha m3 ⟨m1, m2⟩ he
  have hP1o : ∀ n, ¬ n = bl (8 + k) → ¬ n = bl (8 + k) + 1 → ¬ n = bl k + 5 → P1 n = P n := by
    intro n n1 n2 n3
    rw [hP1, cW_o n1 n3, ks_ne n2]
  have hP1c : P1 (bl (8 + k)) = kO 1 (kf (cr1 (.ref (bl k)) d2 (.ref (bl (8 + k) + 1))) C2) := by rw [hP1]; exact cW_c
  have hP1k : P1 (bl (8 + k) + 1) = kI 0 1667 (if mi % 60 = 0 then upd Kp (mi / 60) ((S.2.2 116 k / 1000).toInt32) else Kp) := by
    rw [hP1, cW_o (by omega) (by omega), ks_eq]
  have hP1s : P1 (bl k + 5) = kI 0 64 S2 := by
    rw [hP1]
    unfold cW
    rw [ks_ne (by omega), ks_eq]
  -- the reference's state behind it
  have gA : ∀ q, (q < 108 ∨ 112 < q) → (q < 118 ∨ 121 < q) → q ≠ 123 → (ck_go S k).2.1 q = S.2.1 q := fun q h1 h2 h3 => ck_go_A ⟨h1, h2, h3⟩
  have gM : ∀ j, j ≠ 22 → j ≠ 51 → j ≠ 52 → j ≠ 47 → j ≠ 48 → (ck_go S k).1 j = S.1 j := fun j h1 h2 h3 h4 h5 => ck_go_M h1 h2 h3 h4 h5
  have gLj : ∀ i, ¬ i = k → (ck_go S k).2.2 116 i = S.2.2 116 i := fun i hi => ck_go_Lj hi
  have ag : ∀ i, ¬ i = k → cR_ag S.2.1 (ck_go S k).2.1 i := fun i hi => cR_ag_go hi
  have gci : ∀ i, ck_ci S.2.1 S.2.2 i → ck_ci (ck_go S k).2.1 (ck_go S k).2.2 i := fun i hi => ck_go_ci hi
  have gwo : ck_wo (ck_go S k).1 (ck_go S k).2.1 := ck_go_wo hwo
  generalize ck_go S k = S' at g1 g4 g5 g6 g7 g8 gI gor gA gM gLj ag gci gwo ⊢
  have e117 : S'.2.1 117 = S.2.1 117 := gA 117 (by omega) (by omega) (by decide)
  have hC' : cR_C S'.2.1 k C2 := by
    refine ⟨?_, ?_, g4, g5, g6, g7, fun h0 => g8 (by rw [← e117]; exact h0), ?_, ?_⟩
    · rw [gC 0 (by omega), gA 100 (by omega) (by omega) (by decide)]; exact u0
    · rw [gC 1 (by omega), gA 101 (by omega) (by omega) (by decide)]; exact u1
    · rw [gC 9 (by omega), gA 115 (by omega) (by omega) (by decide)]; exact u9
    · rw [gC 10 (by omega), gA 113 (by omega) (by omega) (by decide)]; exact u10
  have hv' : cR_v S'.2.1 k V T Q Fo St := by
    unfold cR_v
    rw [gA 102 (by omega) (by omega) (by decide), gA 103 (by omega) (by omega) (by decide), gA 104 (by omega) (by omega) (by decide), gA 105 (by omega) (by omega) (by decide), gA 106 (by omega) (by omega) (by decide), gA 107 (by omega) (by omega) (by decide), e117]
    exact c4
  have hkp' : cR_kp S'.2.1 k (mi + 1) (if mi % 60 = 0 then upd Kp (mi / 60) ((S.2.2 116 k / 1000).toInt32) else Kp) := by
    have := cR_kp_s c6 hca (fun h60 => hkh k (Nat.le_refl _) hk h60)
    intro q hq
    rw [this q hq, gA 114 (by omega) (by omega) (by decide), gA 122 (by omega) (by omega) (by decide)]
  -- the made cells, in any world that agrees with P1 from 144 on
  have hdy : ∀ P2, (∀ n, 144 ≤ n → P2 n = P1 n) → cR_dy P2 S'.2.1 S'.2.2 cl se sz bl (fun i => if i < k + 1 then mi + 1 else mi) := by
    intro P2 hP2
    refine ⟨hB, fun i hi => ?_, fun h0 => ?_, fun h0 => ?_, fun n hn => ?_⟩
    · show cR_c P2 S'.2.1 S'.2.2 i (bl (8 + i)) (bl i) (if i < k + 1 then mi + 1 else mi)
      by_cases e : i = k
      · rw [e, if_pos (Nat.lt_succ_self _)]
        obtain ⟨w0, w1, w2, w3, w4, w5⟩ := c1
        refine ⟨V, T, Q, Fo, St, S2, C2, _, ⟨?_, ?_, ?_, ?_, ?_, ?_⟩, ?_, ?_, hv', hC', hkp'⟩
        · rw [hP2 _ (by omega), hP1o _ (by omega) (by omega) (by omega)]; exact w0
        · rw [hP2 _ (by omega), hP1o _ (by omega) (by omega) (by omega)]; exact w1
        · rw [hP2 _ (by omega), hP1o _ (by omega) (by omega) (by omega)]; exact w2
        · rw [hP2 _ (by omega), hP1o _ (by omega) (by omega) (by omega)]; exact w3
        · rw [hP2 _ (by omega), hP1o _ (by omega) (by omega) (by omega)]; exact w4
        · rw [hP2 _ (by omega)]; exact hP1s
        · rw [hP2 _ (by omega), ← g1]; exact hP1c
        · rw [hP2 _ (by omega)]; exact hP1k
      · have b4 := hB.w hcl hi
        have b5 := hB.c hcl hi
        have b6 := hB.ww hcl hi hk e
        have b7 := hB.cc hcl hi hk e
        have b8 := hB.wc hcl hi hk
        have b9 := hB.wc hcl hk hi
        have hci2 : cR_c P S.2.1 S.2.2 i (bl (8 + i)) (bl i) (if i < k then mi + 1 else mi) := hc i hi
        have ek : (if i < k + 1 then mi + 1 else mi) = (if i < k then mi + 1 else mi) := by
          by_cases c : i < k
          · rw [if_pos c, if_pos (by omega)]
          · rw [if_neg c, if_neg (by omega)]
        rw [ek]
        exact cR_c_fr hci2 (hg i hi).1.1.1 (fun n hn => by rw [hP2 n (by omega), hP1o n (by omega) (by omega) (by omega)]) (ag i e) (gLj i e)
    · obtain ⟨V9, T9, Q9, Fo9, St9, S9, hw9⟩ := hsp h0
      have b4 := hB.s h0
      have b5 := hB.sw hcl hk h0
      have b6 := hB.sc hcl hk h0
      exact ⟨V9, T9, Q9, Fo9, St9, S9, cR_w_fr hw9 (fun n n1 n2 => by rw [hP2 n (by omega), hP1o n (by omega) (by omega) (by omega)])⟩
    · have b4 := hB.n h0
      have b5 := hB.nw hcl hk h0
      have b6 := hB.nc hcl hk h0
      rw [hP2 _ (by omega), hP1o _ (by omega) (by omega) (by omega)]
      exact hno h0
    · have := hB.1
      rw [hP2 n (by omega), hP1o n (by omega) (by omega) (by omega)]
      exact hnn n hn
  have hlo : ∀ n, n < 144 → P1 n = P n := fun n hn => hP1o n (by omega) (by omega) (by omega)
  have hg' : ∀ i, i < cl → cR_g S'.2.1 S'.2.2 i ∧ (S'.2.1 114 i).toNatClampNeg ≤ mi := by
    intro i hi
    obtain ⟨⟨q1, q2⟩, q3⟩ := hg i hi
    refine ⟨⟨gci i q1, ?_⟩, by rw [gA 114 (by omega) (by omega) (by decide)]; exact q3⟩
    by_cases e : i = k
    · rw [e]; exact gI
    · exact cR_i_ag q1.1 q2 (ag i e)
  have hkh' : ∀ i, k + 1 ≤ i → i < cl → mi % 60 = 0 → S'.2.1 122 (1700 * i + mi / 60) = (S'.2.2 116 i / 1000).toInt32 := by
    intro i h1 h2 h60
    rw [gA 122 (by omega) (by omega) (by decide), gLj i (by omega)]
    exact hkh i (by omega) h2 h60
  have e1 : S'.1 1 = nI mi := (gM 1 (by decide) (by decide) (by decide) (by decide) (by decide)).trans hM1
  have e49 : S'.1 49 = 0 := (gM 49 (by decide) (by decide) (by decide) (by decide) (by decide)).trans hM49
  have xy0 : ∀ n : Nat, n < 2 ^ 31 → (nI n ≤ 0 ↔ n = 0) := fun n hn => by
    rw [Int32.le_iff_toInt_le, nI_toInt hn, show (0 : Int32).toInt = 0 from rfl]
    omega
  have hval : (if C2 15 = 0 then 0 else C2 13 + C2 14) ≤ 0 ↔ (C2 15 = 0 ∨ x + y = 0) := by
    by_cases c : C2 15 = 0
    · rw [if_pos c]
      exact ⟨fun _ => Or.inl c, fun _ => Int32.le_refl _⟩
    · rw [if_neg c, g13, g14, nI_add, xy0 _ (by omega)]
      exact ⟨fun h => Or.inr h, fun h => h.resolve_left c⟩
  rw [hval]
  have hst' : ∀ (P2 : kx_P), (∀ n, n < 93 → ¬ n = 71 → ¬ n = 72 → ¬ n = 73 → ¬ n = 74 → ¬ n = 75 → P2 n = P n) → (∃ F : Nat → Int32, P2 71 = kO 7 (kf cr7 F) ∧ F 4 = S'.1 22) → cx_SR P2 (S'.2.1 118) (S'.2.1 119) (S'.2.1 120) (S'.2.1 121) → cR_st P2 S'.1 S'.2.1 cl se bl := by
    intro P2 hP2 h71 hSR
    have q : ∀ n, n < 93 → ¬ n = 71 ∧ ¬ n = 72 ∧ ¬ n = 73 ∧ ¬ n = 74 ∧ ¬ n = 75 → P2 n = P n := fun n h1 h2 => hP2 n h1 h2.1 h2.2.1 h2.2.2.1 h2.2.2.2.1 h2.2.2.2.2
    unfold cR_st
    rw [q 64 (by omega) (by omega), q 65 (by omega) (by omega), q 66 (by omega) (by omega), q 67 (by omega) (by omega), q 68 (by omega) (by omega), q 69 (by omega) (by omega), q 70 (by omega) (by omega), q 76 (by omega) (by omega), q 77 (by omega) (by omega), q 78 (by omega) (by omega), q 79 (by omega) (by omega), q 80 (by omega) (by omega), q 81 (by omega) (by omega), q 82 (by omega) (by omega), q 83 (by omega) (by omega), q 84 (by omega) (by omega), q 85 (by omega) (by omega), q 86 (by omega) (by omega), q 87 (by omega) (by omega), q 88 (by omega) (by omega), q 89 (by omega) (by omega), q 90 (by omega) (by omega), q 91 (by omega) (by omega), q 92 (by omega) (by omega), q 1 (by omega) (by omega), q 2 (by omega) (by omega)]
    have m : ∀ j, (¬ j = 22 ∧ ¬ j = 51 ∧ ¬ j = 52 ∧ ¬ j = 47 ∧ ¬ j = 48) → S'.1 j = S.1 j := fun j h => gM j h.1 h.2.1 h.2.2.1 h.2.2.2.1 h.2.2.2.2
    have g : ∀ j, ((j < 108 ∨ 112 < j) ∧ (j < 118 ∨ 121 < j) ∧ j ≠ 123) → S'.2.1 j = S.2.1 j := fun j h => gA j h.1 h.2.1 h.2.2
    rw [m 5 (by omega), m 14 (by omega), m 21 (by omega), m 59 (by omega), m 60 (by omega), m 1 (by omega), m 3 (by omega), m 2 (by omega), m 71 (by omega), m 80 (by omega)]
    rw [g 94 (by omega), g 95 (by omega), g 130 (by omega), g 131 (by omega), g 132 (by omega), g 133 (by omega), g 134 (by omega), g 135 (by omega), g 136 (by omega)]
    exact ⟨p64, ⟨Al, p65, al0, al1, al3⟩, p66, p67, p68, p69, p70, h71, hSR, p76, p77, p78, p79, p80, p81, p82, p83, p84, p85, p89, p90, p1, p2⟩
  rcases gor with ⟨gz, gM2, gA2⟩ | ⟨g15, gpos, sec, hsec, e12, gk, -⟩
  · refine ⟨fun _ => ⟨?_, hdy P1 (fun n _ => rfl), fun n hn => (hlo n (by omega)).trans (hfx n hn), e1, e49, gwo, hg', ⟨sd, ?_, by omega, ?_⟩, hkh'⟩, fun hz => absurd gz hz⟩
    · refine hst' P1 (fun n h1 _ _ _ _ _ => hlo n (by omega)) ⟨F, ?_, ?_⟩ ⟨?_, ?_, ?_, ?_⟩
      · rw [hlo 71 (by omega)]; exact p71
      · rw [gM2 22 (by decide) (by decide)]; exact f4
      · rw [hlo 72 (by omega), gA2 118 (by omega) (by omega)]; exact p72
      · rw [hlo 73 (by omega), gA2 119 (by omega) (by omega)]; exact p73
      · rw [hlo 74 (by omega), gA2 120 (by omega) (by omega)]; exact p74
      · rw [hlo 75 (by omega), gA2 121 (by omega) (by omega)]; exact p75
    · rw [gM2 22 (by decide) (by decide)]; exact h22
    · unfold cR_so
      rw [gA2 118 (by omega) (by omega), gA2 119 (by omega) (by omega), gA2 120 (by omega) (by omega), gA2 121 (by omega) (by omega)]
      exact hso
  · obtain ⟨k22, k118, k119, k120, k121⟩ := gk hM49
    refine ⟨fun hz => ?_, fun _ => ⟨F, sd, by rw [hlo 71 (by omega)]; exact p71, f4.trans h22, by omega, ⟨(hlo 72 (by omega)).trans p72, (hlo 73 (by omega)).trans p73, (hlo 74 (by omega)).trans p74, (hlo 75 (by omega)).trans p75⟩, ?_⟩⟩
    · exfalso
      rcases hz with h | h
      · rw [g15] at h; exact absurd h (by decide)
      · omega
    rw [h22, nI_clamp (by omega)] at k118 k119 k120 k121
    rw [hM1] at k119
    rw [e12, g13, g14]
    have c22 : S'.1 22 = nI (sd + 1) := by rw [k22, h22]; exact nI_1 sd
    refine ⟨hst' _ (fun n h1 h71 h72 h73 h74 h75 => ?_) ⟨upd F 4 (nI (sd + 1)), ks_eq _ _ _, ?_⟩ ⟨?_, ?_, ?_, ?_⟩, hdy _ (fun n hn => ?_), fun n hn => ?_, e1, e49, gwo, hg', ⟨sd + 1, c22, by omega, cR_so_s hso hk hmi hsec hx hy k118 k119 k120 k121⟩, hkh'⟩
    · rw [ks_ne h71, ks_ne h75, ks_ne h74, ks_ne h73, ks_ne h72]; exact hlo n (by omega)
    · rw [pk_us, c22]
    · rw [ks_ne (by decide), ks_ne (by decide), ks_ne (by decide), ks_ne (by decide), ks_eq, k118]
    · rw [ks_ne (by decide), ks_ne (by decide), ks_ne (by decide), ks_eq, k119]
    · rw [ks_ne (by decide), ks_ne (by decide), ks_eq, k120]
    · rw [ks_ne (by decide), ks_eq, k121]
    · rw [ks_ne (by omega), ks_ne (by omega), ks_ne (by omega), ks_ne (by omega), ks_ne (by omega)]
    · rw [ks_ne (by omega), ks_ne (by omega), ks_ne (by omega), ks_ne (by omega), ks_ne (by omega)]
      exact (hlo n (by omega)).trans (hfx n hn)

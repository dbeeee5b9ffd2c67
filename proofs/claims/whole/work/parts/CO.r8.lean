/-! EACH CALL, both ways: the calls that change one clock -/
theorem cR_g.up {A A2 : Nat → Nat → Int32} {L L2 : Nat → Nat → Int64} {c : Nat} (h : cR_g A L c) (e : ∀ k, ¬ (108 ≤ k ∧ k ≤ 113) → ¬ k = 115 → ¬ k = 123 → A2 k = A k) (h110 : ∃ p wm : Nat, A2 110 c = nI p ∧ A 103 c = nI wm ∧ wm ≤ 24 ∧ (¬ A 117 c = 0 → p < wm)) (h115 : -20 ≤ (A2 115 c).toInt ∧ (A2 115 c).toInt ≤ 20)
    (h108 : ∃ run lf : Nat, 1 ≤ run ∧ run ≤ 31 ∧ A 102 (16 * c + 0) = nI run ∧ A2 108 c = nI lf ∧ lf ≤ 1440 * run) (h113 : ∃ o : Nat, A2 113 c = nI o ∧ o ≤ 100000) (h109 : ∃ r : Nat, r ≤ 2000 ∧ A2 109 c = nI r) (h111 : ∃ d : Nat, 1 ≤ d ∧ d ≤ 31 ∧ A2 111 c = nI d) (h112 : ∃ m : Nat, 1 ≤ m ∧ m ≤ 12 ∧ A2 112 c = nI m) (hdl : ck_dl L2 c) : cR_g A2 L2 c := by
  obtain ⟨⟨⟨g0, -, gnn⟩, ⟨r1, r2, r3, r4, r15, -, -, -⟩, -⟩, i1, i2, -, i5, i117, i104, i105, -, -, i100, i114⟩ := h
  have e102 := e 102 (by decide) (by decide) (by decide)
  have e103 := e 103 (by decide) (by decide) (by decide)
  have e104 := e 104 (by decide) (by decide) (by decide)
  have e105 := e 105 (by decide) (by decide) (by decide)
  have e106 := e 106 (by decide) (by decide) (by decide)
  have e117 := e 117 (by decide) (by decide) (by decide)
  have e100 := e 100 (by decide) (by decide) (by decide)
  have e101 := e 101 (by decide) (by decide) (by decide)
  have e114 := e 114 (by decide) (by decide) (by decide)
  refine ⟨⟨?_, ?_, hdl⟩, ?_⟩
  · unfold ck_wf
    rw [e102, e103, e105, e106, e117]
    exact ⟨g0, h110, gnn⟩
  · unfold ck_rg
    rw [e102]
    exact ⟨r1, r2, r3, r4, r15, h115, h108, h113⟩
  · unfold cR_i
    rw [e102, e103, e104, e105, e117, e100, e101, e114]
    exact ⟨i1, i2, h109, i5, i117, i104, i105, h111, h112, i100, i114⟩
theorem cI_clk {P P2 : kx_P} {sz : Nat} {M M2 : Nat → Int32} {A A2 : Nat → Nat → Int32} {L L2 : Nat → Nat → Int64} {cl mi se c : Nat} {bl : Nat → Nat} (h : cI P sz (M, A, L) cl mi se bl) (hc : c < cl) {V T Q Fo St S1 C Kp : Nat → Int32} (hq : P (bl (8 + c)) = kO 1 (kf (cr1 (.ref (bl c)) (L 116 c) (.ref (bl (8 + c) + 1))) C)) (H : cR_w P (bl c) V T Q Fo St S1) (hkq : P (bl (8 + c) + 1) = kI 0 1667 Kp) (hv : cR_v A c V T Q Fo St) (hkp : cR_kp A c mi Kp) {S2 C2 : Nat → Int32} {d2 : Int64}
    (hP2 : P2 = cW P (bl (8 + c)) (bl c) S2 d2 (.ref (bl (8 + c) + 1)) C2) (eM : ∀ j, j = 1 ∨ j = 2 ∨ j = 3 ∨ j = 5 ∨ j = 12 ∨ j = 13 ∨ j = 14 ∨ j = 21 ∨ j = 22 ∨ j = 49 ∨ j = 59 ∨ j = 60 ∨ j = 71 ∨ j = 80 → M2 j = M j) (eA : ∀ k, ¬ (108 ≤ k ∧ k ≤ 113) → ¬ k = 115 → ¬ k = 123 → A2 k = A k) (eI : ∀ k, ¬ k = 123 → ∀ i, ¬ i = c → A2 k i = A k i) (eL : ∀ i, ¬ i = c → L2 116 i = L 116 i) (hd : d2 = L2 116 c) (hC : cR_C A2 c C2) (hg : cR_g A2 L2 c) : cR_af P P2 (M2, A2, L2) cl mi se sz bl := by
  obtain ⟨sd, hm, hst, ⟨hB, hcc, hsp, hnt, hno⟩, -⟩ := h
  have hcl : cl ≤ 8 := hm.2.2.1
  have b1 := hB.w hcl hc
  have b2 := hB.c hcl hc
  have b3 := hB.wc hcl hc hc
  have q : ∀ n, ¬ n = bl (8 + c) → ¬ n = bl c + 5 → P2 n = P n := fun n h1 h2 => by rw [hP2]; exact cW_o h1 h2
  have q1 : P2 (bl (8 + c)) = kO 1 (kf (cr1 (.ref (bl c)) d2 (.ref (bl (8 + c) + 1))) C2) := by rw [hP2]; exact cW_c
  have q5 : P2 (bl c + 5) = kI 0 64 S2 := by
    rw [hP2]
    exact (ks_ne (by omega)).trans (ks_eq _ _ _)
  clear hP2
  have eg : ∀ i, ¬ i = c → cR_ag A A2 i := fun i hi => ⟨fun k hk => eI k (by omega) i hi, fun j _ => by rw [eA 102 (by omega) (by omega) (by omega)], fun j _ => by rw [eA 104 (by omega) (by omega) (by omega)], fun j _ => ⟨by rw [eA 106 (by omega) (by omega) (by omega)], by rw [eA 107 (by omega) (by omega) (by omega)]⟩, fun j _ => by rw [eA 122 (by omega) (by omega) (by omega)]⟩
  have g : ∀ k, (k = 94 ∨ k = 95 ∨ (118 ≤ k ∧ k ≤ 122) ∨ (130 ≤ k ∧ k ≤ 136)) → A2 k = A k := fun k hk => eA k (by omega) (by omega) (by omega)
  refine ⟨sd, ?_, ?_, ⟨hB, fun i hi => ?_, fun h0 => ?_, fun h0 => ?_, fun n hn => (q n (by omega) (by omega)).trans (hno n hn)⟩, fun n hn => q n (by omega) (by omega)⟩
  · obtain ⟨a0, a1, a2, a3, a4, a5, a6, a7, a8, a9, a10, a11, a12, ac, a13, a14⟩ := hm
    refine ⟨by show ∃ c0 w0 kx ky : Nat, M2 12 = nI c0 ∧ M2 13 = nI w0 ∧ kx ≤ 99 ∧ ky ≤ 99 ∧ M2 59 = nI kx ∧ M2 60 = nI ky; rw [eM 12 (by omega), eM 13 (by omega), eM 59 (by omega), eM 60 (by omega)]; exact a0, (eM 21 (by omega)).trans a1, a2, (eM 1 (by omega)).trans a3, a4, by show M2 3 = 0 ∨ M2 3 = 1; rw [eM 3 (by omega)]; exact a5, (eM 49 (by omega)).trans a6, by show ∃ tp : Nat, tp ≤ 400 ∧ M2 5 = nI tp; rw [eM 5 (by omega)]; exact a7, ?_, (eM 22 (by omega)).trans a9, a10, ?_, fun i hi => ?_, fun i hi => by show (A2 114 i).toNatClampNeg ≤ mi; rw [eA 114 (by omega) (by omega) (by omega)]; exact ac i hi, ?_, ?_⟩
    · show ck_wo M2 A2
      unfold ck_wo
      rw [eM 2 (by omega), g 94 (by omega)]
      exact a8
    · show cR_so A2 sd cl
      unfold cR_so
      rw [g 118 (by omega), g 119 (by omega), g 120 (by omega), g 121 (by omega)]
      exact a11
    · by_cases e : i = c
      · subst e
        exact hg
      · exact cR_g_ag (a12 i hi) (eg i e) (eL i e)
    · show ∃ rn : Nat, rn ≤ 100 ∧ M2 71 = nI rn ∧ ∀ j, j < rn → (∃ m : Nat, m ≤ 100000 ∧ A2 131 j = nI m) ∧ -100000000 ≤ (A2 132 j).toInt ∧ (A2 132 j).toInt ≤ 100000000
      rw [eM 71 (by omega), g 131 (by omega), g 132 (by omega)]; exact a13
    · show ∃ ln : Nat, ln ≤ 40 ∧ M2 80 = nI ln ∧ ∀ j, j < ln → ∃ m : Nat, m ≤ 100000 ∧ A2 135 j = nI m
      rw [eM 80 (by omega), g 135 (by omega)]; exact a14
  · show cR_st P2 M2 A2 cl se bl
    obtain ⟨p64, p65, p66, p67, p68, p69, p70, p71, p72, p76, p77, p78, p79, p80, p81, p82, p83, p84, p85, p89, p90, p1, p2⟩ := id hst
    unfold cR_st
    unfold cx_SR at p72 ⊢
    rw [q 64 (by omega) (by omega), q 65 (by omega) (by omega), q 66 (by omega) (by omega), q 67 (by omega) (by omega), q 68 (by omega) (by omega), q 69 (by omega) (by omega), q 70 (by omega) (by omega), q 71 (by omega) (by omega), q 72 (by omega) (by omega), q 73 (by omega) (by omega), q 74 (by omega) (by omega), q 75 (by omega) (by omega), q 76 (by omega) (by omega), q 77 (by omega) (by omega), q 78 (by omega) (by omega), q 79 (by omega) (by omega), q 80 (by omega) (by omega), q 81 (by omega) (by omega), q 82 (by omega) (by omega), q 83 (by omega) (by omega), q 84 (by omega) (by omega), q 85 (by omega) (by omega), q 86 (by omega) (by omega), q 87 (by omega) (by omega), q 88 (by omega) (by omega), q 89 (by omega) (by omega), q 90 (by omega) (by omega), q 91 (by omega) (by omega), q 92 (by omega) (by omega), q 1 (by omega) (by omega), q 2 (by omega) (by omega)]
    rw [eM 5 (by omega), eM 14 (by omega), eM 21 (by omega), eM 59 (by omega), eM 60 (by omega), eM 1 (by omega), eM 3 (by omega), eM 2 (by omega), eM 22 (by omega), eM 71 (by omega), eM 80 (by omega)]
    rw [g 94 (by omega), g 95 (by omega), g 118 (by omega), g 119 (by omega), g 120 (by omega), g 121 (by omega), g 130 (by omega), g 131 (by omega), g 132 (by omega), g 133 (by omega), g 134 (by omega), g 135 (by omega), g 136 (by omega)]
    exact ⟨p64, p65, p66, p67, p68, p69, p70, p71, p72, p76, p77, p78, p79, p80, p81, p82, p83, p84, p85, p89, p90, p1, p2⟩
  · by_cases e : i = c
    · subst e
      obtain ⟨w0, w1, w2, w3, w4, w5⟩ := H
      refine ⟨V, T, Q, Fo, St, S2, C2, Kp, ⟨(q _ (by omega) (by omega)).trans w0, (q _ (by omega) (by omega)).trans w1, (q _ (by omega) (by omega)).trans w2, (q _ (by omega) (by omega)).trans w3, (q _ (by omega) (by omega)).trans w4, q5⟩, by rw [hd] at q1; exact q1, (q _ (by omega) (by omega)).trans hkq, ?_, hC, ?_⟩
      · show cR_v A2 i V T Q Fo St
        unfold cR_v
        rw [eA 102 (by omega) (by omega) (by omega), eA 103 (by omega) (by omega) (by omega), eA 104 (by omega) (by omega) (by omega), eA 105 (by omega) (by omega) (by omega), eA 106 (by omega) (by omega) (by omega), eA 107 (by omega) (by omega) (by omega), eA 117 (by omega) (by omega) (by omega)]
        exact hv
      · show cR_kp A2 i mi Kp
        intro x hx
        rw [eA 114 (by omega) (by omega) (by omega), g 122 (by omega)]
        exact hkp x hx
    · have d1 := hB.ww hcl hi hc e
      have d2 := hB.wc hcl hi hc
      have d3 := hB.wc hcl hc hi
      have d4 := hB.cc hcl hi hc e
      exact cR_c_fr (hcc i hi) (hm.2.2.2.2.2.2.2.2.2.2.2.2.1 i hi).1.1 (fun n hn => q n (by omega) (by omega)) (eg i e) (eL i e)
  · obtain ⟨V, T, Q, Fo, St, S, hw⟩ := hsp h0
    have d1 := hB.sw hcl hc h0
    have d2 := hB.sc hcl hc h0
    exact ⟨V, T, Q, Fo, St, S, cR_w_fr hw (fun n a b => q n (by omega) (by omega))⟩
  · have d1 := hB.nw hcl hc h0
    have d2 := hB.nc hcl hc h0
    rw [q _ (by omega) (by omega)]
    exact hnt h0
theorem cW_id {P : kx_P} {c w : Nat} {S C : Nat → Int32} {d : Int64} {h : Value} (h5 : P (w + 5) = kI 0 64 S) : kx_set P c (kO 1 (kf (cr1 (.ref w) d h) C)) = cW P c w S d h C := by
  unfold cW
  rw [ks_id h5]
theorem cI_w6 {P : kx_P} {c w : Nat} {V T Q Fo St Al Wm S1 : Nat → Int32} (H : cx_R P c w V T Q Fo St Al Wm) (h5 : P (w + 5) = kI 0 64 S1) : cR_w P w V T Q Fo St S1 := by
  obtain ⟨-, -, -, -, -, w0, w1, w2, w3, w4, -⟩ := H
  exact ⟨w0, w1, w2, w3, w4, h5⟩

theorem cs_wind (l : Launch) (G : kx_G) (hst : l.stackTraces = false) {P : kx_P} {sz : Nat} {M : Nat → Int32} {A : Nat → Nat → Int32} {L : Nat → Nat → Int64} {cl mi se : Nat} {bl : Nat → Nat} (h : cI P sz (M, A, L) cl mi se bl) (x y : Int32) : cSs l G sX10_wind sX11_wind [.int x, .int y] [.int x, .int y] P sz (M, A, L) se bl cS_NA := by
  obtain ⟨K, h64, h69, h7, hcl, k2, k5, k10, k11, h21⟩ := cI_k h
  rcases cl_ix hcl h7 h21 x with ⟨c, hc, rfl⟩ | ⟨hx, hy⟩
  · obtain ⟨K', Al, V, T, Q, Fo, St, S1, C, Kp, -, -, -, -, H, hs, hq, hkq, hA, al0, al1, al3, hmi, h1, -, hv, hC, hkp, hg⟩ := cI_c h hc
    obtain ⟨⟨⟨g0, g110, gnn⟩, ⟨r1, r2, r3, r4, r15, r115, r108, r113⟩, gdl⟩, i1, i2, i109, i5, i117, i104, i105, i111, i112, i100, i114⟩ := id hg
    obtain ⟨C0, C1, C4, C5, C6, C7, C8, C9, C10⟩ := id hC
    have hB9 : 144 ≤ bl c ∧ 144 ≤ bl (8 + c) := by
      obtain ⟨sd8, hm8, -, ⟨hB8, -⟩, -⟩ := id h
      exact ⟨(hB8.w hcl hc).2.1, (hB8.c hcl hc).2.1⟩
    by_cases y0 : y = 0
    · subst y0
      obtain ⟨run, lf, q1, q2, q3, q4, q5⟩ := r108
      have hcc := ct_X10_wind_0 l G (sz := sz) h64 h69 h7 hcl hc H hs hq
      have haf := cI_clk (M2 := (upd M 0 0)) (A2 := (va_up A 108 (upd (A 108) c (1440 * A 102 (16 * c + 0))))) (L2 := L) (S2 := S1) (C2 := (upd C 6 (1440 * V 0))) h hc hq (cI_w6 H hs) hkq hv hkp rfl (fun j hj => by rcases hj with rfl | rfl | rfl | rfl | rfl | rfl | rfl | rfl | rfl | rfl | rfl | rfl | rfl | rfl <;> rfl) (fun k k1 k2 k3 => by unfold va_up; rw [if_neg (by omega)]) (fun k _ i hi => by unfold va_up; (by_cases e0 : k = 108; (· rw [if_pos e0, pk_un hi, e0]) ; (· rw [if_neg e0]))) (fun _ _ => rfl) rfl ⟨C0, C1, C4, C5, by rw [pk_us, va_us, pk_us, hv.1.1], C7, C8, C9, C10⟩ (cR_g.up hg (fun k k1 k2 k3 => by unfold va_up; rw [if_neg (by omega)]) (g110) (r115) (⟨run, 1440 * run, q1, q2, q3, by rw [va_us, pk_us, q3]; exact pk_mul 1440 run, Nat.le_refl _⟩) (r113) (i109) (i111) (i112) gdl)
      exact Or.inl (cSt_s h (by rw [cW_id hs, C6] at hcc; exact hcc) haf rfl (fun R s2 => ct_X11_wind_0 l G h21 hcl hc))
    by_cases y1 : y = 1
    · subst y1
      have hcc := ct_X10_wind_1 l G (sz := sz) h64 h69 h7 hcl hc H hs hq
      have haf := cI_clk (M2 := (upd M 0 0)) (A2 := (va_up A 109 (upd (A 109) c (A 102 (16 * c + 5))))) (L2 := L) (S2 := S1) (C2 := (upd C 7 (V 6))) h hc hq (cI_w6 H hs) hkq hv hkp rfl (fun j hj => by rcases hj with rfl | rfl | rfl | rfl | rfl | rfl | rfl | rfl | rfl | rfl | rfl | rfl | rfl | rfl <;> rfl) (fun k k1 k2 k3 => by unfold va_up; rw [if_neg (by omega)]) (fun k _ i hi => by unfold va_up; (by_cases e0 : k = 109; (· rw [if_pos e0, pk_un hi, e0]) ; (· rw [if_neg e0]))) (fun _ _ => rfl) rfl ⟨C0, C1, C4, C5, C6, by rw [pk_us, va_us, pk_us]; exact hv.1.2.2.2.2.2.2.1, C8, C9, C10⟩ (cR_g.up hg (fun k k1 k2 k3 => by unfold va_up; rw [if_neg (by omega)]) (g110) (r115) (r108) (r113) (by rw [va_us, pk_us]; exact i5) (i111) (i112) gdl)
      exact Or.inl (cSt_s h (by rw [cW_id hs, C7] at hcc; exact hcc) haf rfl (fun R s2 => ct_X11_wind_1 l G h21 hcl hc))
    exact cSs_2 (cSx_q (by decide) (by decide) (Or.inl rfl) (ct_X10_wind_b l G hst h64 h69 h7 hcl hc y0 y1) (fun R s2 => ct_X11_wind_b l G h21 hcl hc (fun z => z.elim y0 y1)))
  · exact cSs_1 (cSx_q (by decide) (by decide) (Or.inl rfl) (ct_X10_wind_f l G hst h64 hx) (fun R s2 => ct_X11_wind_f l G hy))

theorem cs_oil (l : Launch) (G : kx_G) (hst : l.stackTraces = false) {P : kx_P} {sz : Nat} {M : Nat → Int32} {A : Nat → Nat → Int32} {L : Nat → Nat → Int64} {cl mi se : Nat} {bl : Nat → Nat} (h : cI P sz (M, A, L) cl mi se bl) (x : Int32) : cSs l G sX10_oil sX11_oil [.int x] [.int x] P sz (M, A, L) se bl cS_N := by
  obtain ⟨K, h64, h69, h7, hcl, k2, k5, k10, k11, h21⟩ := cI_k h
  rcases cl_ix hcl h7 h21 x with ⟨c, hc, rfl⟩ | ⟨hx, hy⟩
  · obtain ⟨K', Al, V, T, Q, Fo, St, S1, C, Kp, -, -, -, -, H, hs, hq, hkq, hA, al0, al1, al3, hmi, h1, -, hv, hC, hkp, hg⟩ := cI_c h hc
    obtain ⟨⟨⟨g0, g110, gnn⟩, ⟨r1, r2, r3, r4, r15, r115, r108, r113⟩, gdl⟩, i1, i2, i109, i5, i117, i104, i105, i111, i112, i100, i114⟩ := id hg
    obtain ⟨C0, C1, C4, C5, C6, C7, C8, C9, C10⟩ := id hC
    have hB9 : 144 ≤ bl c ∧ 144 ≤ bl (8 + c) := by
      obtain ⟨sd8, hm8, -, ⟨hB8, -⟩, -⟩ := id h
      exact ⟨(hB8.w hcl hc).2.1, (hB8.c hcl hc).2.1⟩
    have al0b : Al 0 = M 1 := al0.trans h1.symm
    have hcc := ct_X10_oil_t l G (sz := sz) h64 h69 h7 hcl hc hA hq (by omega) (by omega)
    have haf := cI_clk (M2 := (upd M 0 0)) (A2 := (va_up A 113 (upd (A 113) c (M 1)))) (L2 := L) (S2 := S1) (C2 := (upd C 10 (Al 0 / 1440))) h hc hq (cI_w6 H hs) hkq hv hkp rfl (fun j hj => by rcases hj with rfl | rfl | rfl | rfl | rfl | rfl | rfl | rfl | rfl | rfl | rfl | rfl | rfl | rfl <;> rfl) (fun k k1 k2 k3 => by unfold va_up; rw [if_neg (by omega)]) (fun k _ i hi => by unfold va_up; (by_cases e0 : k = 113; (· rw [if_pos e0, pk_un hi, e0]) ; (· rw [if_neg e0]))) (fun _ _ => rfl) rfl ⟨C0, C1, C4, C5, C6, C7, C8, C9, by rw [pk_us, va_us, pk_us, al0b]⟩ (cR_g.up hg (fun k k1 k2 k3 => by unfold va_up; rw [if_neg (by omega)]) (g110) (r115) (r108) (⟨mi, by rw [va_us, pk_us]; exact h1, hmi⟩) (i109) (i111) (i112) gdl)
    exact Or.inl (cSt_s h (by rw [cW_id hs, C10, al0b] at hcc; rw [al0b]; exact hcc) haf rfl (fun R s2 => ct_X11_oil_t l G h21 hcl hc))
  · exact cSs_1 (cSx_q (by decide) (by decide) (Or.inl rfl) (ct_X10_oil_f l G hst h64 hx) (fun R s2 => ct_X11_oil_f l G hy))

theorem cs_pennies (l : Launch) (G : kx_G) (hst : l.stackTraces = false) {P : kx_P} {sz : Nat} {M : Nat → Int32} {A : Nat → Nat → Int32} {L : Nat → Nat → Int64} {cl mi se : Nat} {bl : Nat → Nat} (h : cI P sz (M, A, L) cl mi se bl) (x y : Int32) : cSs l G sX10_pennies sX11_pennies [.int x, .int y] [.int x, .int y] P sz (M, A, L) se bl cS_NA := by
  obtain ⟨K, h64, h69, h7, hcl, k2, k5, k10, k11, h21⟩ := cI_k h
  rcases cl_ix hcl h7 h21 x with ⟨c, hc, rfl⟩ | ⟨hx, hy⟩
  · obtain ⟨K', Al, V, T, Q, Fo, St, S1, C, Kp, -, -, -, -, H, hs, hq, hkq, hA, al0, al1, al3, hmi, h1, -, hv, hC, hkp, hg⟩ := cI_c h hc
    obtain ⟨⟨⟨g0, g110, gnn⟩, ⟨r1, r2, r3, r4, r15, r115, r108, r113⟩, gdl⟩, i1, i2, i109, i5, i117, i104, i105, i111, i112, i100, i114⟩ := id hg
    obtain ⟨C0, C1, C4, C5, C6, C7, C8, C9, C10⟩ := id hC
    have hB9 : 144 ≤ bl c ∧ 144 ≤ bl (8 + c) := by
      obtain ⟨sd8, hm8, -, ⟨hB8, -⟩, -⟩ := id h
      exact ⟨(hB8.w hcl hc).2.1, (hB8.c hcl hc).2.1⟩
    by_cases hp : (-20) ≤ y ∧ y ≤ 20
    · have hp2 := ir_of hp.1 hp.2
      have hcc := ct_X10_pennies_t l G (sz := sz) h64 h69 h7 hcl hc hq (by omega) hp.1 hp.2
      have haf := cI_clk (M2 := (upd M 0 0)) (A2 := (va_up A 115 (upd (A 115) c y))) (L2 := L) (S2 := S1) (C2 := (upd C 9 y)) h hc hq (cI_w6 H hs) hkq hv hkp rfl (fun j hj => by rcases hj with rfl | rfl | rfl | rfl | rfl | rfl | rfl | rfl | rfl | rfl | rfl | rfl | rfl | rfl <;> rfl) (fun k k1 k2 k3 => by unfold va_up; rw [if_neg (by omega)]) (fun k _ i hi => by unfold va_up; (by_cases e0 : k = 115; (· rw [if_pos e0, pk_un hi, e0]) ; (· rw [if_neg e0]))) (fun _ _ => rfl) rfl ⟨C0, C1, C4, C5, C6, C7, C8, by rw [pk_us, va_us, pk_us], C10⟩ (cR_g.up hg (fun k k1 k2 k3 => by unfold va_up; rw [if_neg (by omega)]) (g110) (by rw [va_us, pk_us]; exact hp2) (r108) (r113) (i109) (i111) (i112) gdl)
      exact Or.inl (cSt_s h (by rw [cW_id hs, C9] at hcc; exact hcc) haf rfl (fun R s2 => ct_X11_pennies_t l G h21 hcl hc hp))
    · exact cSs_2 (cSx_q (by decide) (by decide) (Or.inl rfl) (ct_X10_pennies_b l G hst h64 h69 h7 hcl hc hp) (fun R s2 => ct_X11_pennies_b l G h21 hcl hc hp))
  · exact cSs_1 (cSx_q (by decide) (by decide) (Or.inl rfl) (ct_X10_pennies_f l G hst h64 hx) (fun R s2 => ct_X11_pennies_f l G hy))

theorem ct_dm {d m da mo : Nat} (hd : d ≤ 31) (hm : m ≤ 12) (hda : da ≤ 31) (hmo : mo ≤ 12) {x y : Int32} (ex : x = nI d) (ey : y = nI m) : 100 * y + x = nI (100 * mo + da) ↔ x = nI da ∧ y = nI mo := by
  rw [ex, ey, show (100 : Int32) = nI 100 from rfl, pk_mul, nI_add, nI_eq (by omega) (by omega), nI_eq (by omega) (by omega), nI_eq (by omega) (by omega)]
  omega

theorem cs_date (l : Launch) (G : kx_G) (hst : l.stackTraces = false) {P : kx_P} {sz : Nat} {M : Nat → Int32} {A : Nat → Nat → Int32} {L : Nat → Nat → Int64} {cl mi se : Nat} {bl : Nat → Nat} (h : cI P sz (M, A, L) cl mi se bl) (x : Int32) : cSs l G sX10_date sX11_date [.int x] [.int x] P sz (M, A, L) se bl cS_N := by
  obtain ⟨K, h64, h69, h7, hcl, k2, k5, k10, k11, h21⟩ := cI_k h
  rcases cl_ix hcl h7 h21 x with ⟨c, hc, rfl⟩ | ⟨hx, hy⟩
  · obtain ⟨K', Al, V, T, Q, Fo, St, S1, C, Kp, -, -, -, -, H, hs, hq, hkq, hA, al0, al1, al3, hmi, h1, -, hv, hC, hkp, hg⟩ := cI_c h hc
    obtain ⟨⟨⟨g0, g110, gnn⟩, ⟨r1, r2, r3, r4, r15, r115, r108, r113⟩, gdl⟩, i1, i2, i109, i5, i117, i104, i105, i111, i112, i100, i114⟩ := id hg
    obtain ⟨C0, C1, C4, C5, C6, C7, C8, C9, C10⟩ := id hC
    have hB9 : 144 ≤ bl c ∧ 144 ≤ bl (8 + c) := by
      obtain ⟨sd8, hm8, -, ⟨hB8, -⟩, -⟩ := id h
      exact ⟨(hB8.w hcl hc).2.1, (hB8.c hcl hc).2.1⟩
    obtain ⟨dd, d1, d2, ed⟩ := i111
    obtain ⟨mm, m1, m2, em⟩ := i112
    have hda := ck_da_le (show mi / 1440 ≤ 69 by omega) (ck_feb_le (M 3))
    have hmo := ck_mo_le (mi / 1440) (ck_feb (M 3))
    have hdm := ct_dm (da := ck_da (mi / 1440) (ck_feb (M 3))) (mo := ck_mo (mi / 1440) (ck_feb (M 3))) d2 m2 (by omega) (by omega) ed em
    by_cases he : 100 * A 112 c + A 111 c = nI (100 * ck_mo (mi / 1440) (ck_feb (M 3)) + ck_da (mi / 1440) (ck_feb (M 3)))
    · obtain ⟨z1, z2⟩ := hdm.mp he
      have htd : (if C 4 = nI (ck_da (mi / 1440) (ck_feb (Al 1))) then (if C 5 = nI (ck_mo (mi / 1440) (ck_feb (Al 1))) then 1 else 0) else 0) = (1 : Int32) := by rw [al1, C4, C5, if_pos z1, if_pos z2]
      have hcw : cW P (bl (8 + c)) (bl c) S1 (L 116 c) (.ref (bl (8 + c) + 1)) C = P := by unfold cW; rw [ks_id hs, ks_id hq]
      have hcc := ct_X10_date_t l G (sz := sz) h64 h69 h7 hcl hc H hs hq al0 hmi htd
      have haf := cI_clk (M2 := (upd M 0 0)) (A2 := (va_up (va_up A 111 (upd (A 111) c (nI (ck_da (mi / 1440) (ck_feb (M 3)))))) 112 (upd (A 112) c (nI (ck_mo (mi / 1440) (ck_feb (M 3))))))) (L2 := L) (S2 := S1) (C2 := C) h hc hq (cI_w6 H hs) hkq hv hkp rfl (fun j hj => by rcases hj with rfl | rfl | rfl | rfl | rfl | rfl | rfl | rfl | rfl | rfl | rfl | rfl | rfl | rfl <;> rfl) (fun k k1 k2 k3 => by unfold va_up; rw [if_neg (by omega), if_neg (by omega)]) (fun k _ i hi => by unfold va_up; (by_cases e0 : k = 112; (· rw [if_pos e0, pk_un hi, e0]) ; (· rw [if_neg e0]; (by_cases e1 : k = 111; (· rw [if_pos e1, pk_un hi, e1]) ; (· rw [if_neg e1]))))) (fun _ _ => rfl) rfl ⟨C0, C1, by rw [va_upn (by decide), va_us, pk_us]; exact C4.trans z1, by rw [va_us, pk_us]; exact C5.trans z2, C6, C7, C8, C9, C10⟩ (cR_g.up hg (fun k k1 k2 k3 => by unfold va_up; rw [if_neg (by omega), if_neg (by omega)]) (g110) (r115) (r108) (r113) (i109) (⟨ck_da (mi / 1440) (ck_feb (M 3)), hda.1, hda.2, by rw [va_upn (by decide), va_us, pk_us]⟩) (⟨ck_mo (mi / 1440) (ck_feb (M 3)), hmo.1, by omega, by rw [va_us, pk_us]⟩) gdl)
      exact Or.inl (cSt_s h (by rw [hcw]; exact hcc) haf rfl (fun R s2 => ct_X11_date_y l G h21 hcl hc h1 hmi he))
    · have htd : (if C 4 = nI (ck_da (mi / 1440) (ck_feb (Al 1))) then (if C 5 = nI (ck_mo (mi / 1440) (ck_feb (Al 1))) then 1 else 0) else 0) = (0 : Int32) := by
        rw [al1, C4, C5]
        by_cases z1 : A 111 c = nI (ck_da (mi / 1440) (ck_feb (M 3)))
        · rw [if_pos z1, if_neg (fun z2 => he (hdm.mpr ⟨z1, z2⟩))]
        · rw [if_neg z1]
      have hcc := ct_X10_date_s l G (sz := sz) h64 h69 h7 hcl hc H hs hq al0 hmi htd
      have haf := cI_clk (M2 := (upd M 0 0)) (A2 := (va_up (va_up A 111 (upd (A 111) c (nI (ck_da (mi / 1440) (ck_feb (M 3)))))) 112 (upd (A 112) c (nI (ck_mo (mi / 1440) (ck_feb (M 3))))))) (L2 := L) (S2 := S1) (C2 := (upd (upd C 4 (nI (ck_da (mi / 1440) (ck_feb (M 3))))) 5 (nI (ck_mo (mi / 1440) (ck_feb (M 3)))))) h hc hq (cI_w6 H hs) hkq hv hkp rfl (fun j hj => by rcases hj with rfl | rfl | rfl | rfl | rfl | rfl | rfl | rfl | rfl | rfl | rfl | rfl | rfl | rfl <;> rfl) (fun k k1 k2 k3 => by unfold va_up; rw [if_neg (by omega), if_neg (by omega)]) (fun k _ i hi => by unfold va_up; (by_cases e0 : k = 112; (· rw [if_pos e0, pk_un hi, e0]) ; (· rw [if_neg e0]; (by_cases e1 : k = 111; (· rw [if_pos e1, pk_un hi, e1]) ; (· rw [if_neg e1]))))) (fun _ _ => rfl) rfl ⟨C0, C1, by rw [va_upn (by decide), va_us, pk_us]; rfl, by rw [va_us, pk_us, pk_us], C6, C7, C8, C9, C10⟩ (cR_g.up hg (fun k k1 k2 k3 => by unfold va_up; rw [if_neg (by omega), if_neg (by omega)]) (g110) (r115) (r108) (r113) (i109) (⟨ck_da (mi / 1440) (ck_feb (M 3)), hda.1, hda.2, by rw [va_upn (by decide), va_us, pk_us]⟩) (⟨ck_mo (mi / 1440) (ck_feb (M 3)), hmo.1, by omega, by rw [va_us, pk_us]⟩) gdl)
      exact Or.inl (cSt_s h (by rw [al1] at hcc; exact hcc) haf rfl (fun R s2 => ct_X11_date_n l G h21 hcl hc h1 hmi he))
  · exact cSs_1 (cSx_q (by decide) (by decide) (Or.inl rfl) (ct_X10_date_f l G hst h64 hx) (fun R s2 => ct_X11_date_f l G hy))

theorem cs_trip (l : Launch) (G : kx_G) (hst : l.stackTraces = false) {P : kx_P} {sz : Nat} {M : Nat → Int32} {A : Nat → Nat → Int32} {L : Nat → Nat → Int64} {cl mi se : Nat} {bl : Nat → Nat} (h : cI P sz (M, A, L) cl mi se bl) (x y : Int32) (hb_y : y = 0 ∨ y = 1) : cSs l G sX10_trip sX11_trip [.int x, .int y] [.int x, .int y] P sz (M, A, L) se bl cS_N := by
  obtain ⟨K, h64, h69, h7, hcl, k2, k5, k10, k11, h21⟩ := cI_k h
  rcases cl_ix hcl h7 h21 x with ⟨c, hc, rfl⟩ | ⟨hx, hy⟩
  · obtain ⟨K', Al, V, T, Q, Fo, St, S1, C, Kp, -, -, -, -, H, hs, hq, hkq, hA, al0, al1, al3, hmi, h1, -, hv, hC, hkp, hg⟩ := cI_c h hc
    obtain ⟨⟨⟨g0, g110, gnn⟩, ⟨r1, r2, r3, r4, r15, r115, r108, r113⟩, gdl⟩, i1, i2, i109, i5, i117, i104, i105, i111, i112, i100, i114⟩ := id hg
    obtain ⟨C0, C1, C4, C5, C6, C7, C8, C9, C10⟩ := id hC
    have hB9 : 144 ≤ bl c ∧ 144 ≤ bl (8 + c) := by
      obtain ⟨sd8, hm8, -, ⟨hB8, -⟩, -⟩ := id h
      exact ⟨(hB8.w hcl hc).2.1, (hB8.c hcl hc).2.1⟩
    obtain ⟨p, wm, h110, h103, hwm, hpw⟩ := id g110
    by_cases h117 : A 117 c = 0
    · exact Or.inl (cSt_r h (ct_X10_trip_n l G h64 h69 h7 hcl hc H hs hq (hv.2.2.1.trans h117)) (fun R s2 => ct_X11_trip_w l G h21 hcl hc h117))
    have h12 : ¬ V 12 = 0 := fun z => h117 (hv.2.2.1.symm.trans z)
    have hp := hpw h117
    have h14 : V 14 = nI wm := (hv.2.2.2.1 h117).1.trans h103
    have c8 : C 8 = nI p := (C8 h117).trans h110
    have hto : cx_to V T (C 8) = A 104 (24 * c + p) := by rw [c8]; exact cx_wheel_eq hv h117 h103 hwm hp
    obtain ⟨r, hr, er⟩ := id i109
    obtain ⟨t, ht, et⟩ := i104 h117 p (by rw [h103, nI_clamp (by omega)]; exact hp)
    rcases hb_y with rfl | rfl
    · have hpa : cx_pa V (C 8) (-1) = nI ((p + (wm - 1)) % wm) := by rw [c8]; exact (cx_pa_s (b := 1) h14 (by omega) (by omega) (by omega)).trans (by rw [show p + wm - 1 = p + (wm - 1) by omega])
      have hcc := ct_X10_trip_l l G (sz := sz) h64 h69 h7 hcl hc H hs hq h12
      have haf := cI_clk (M2 := (upd M 0 0)) (A2 := (va_up A 110 (upd (A 110) c (nI ((p + (wm - 1)) % wm))))) (L2 := L) (S2 := S1) (C2 := (upd C 8 (nI ((p + (wm - 1)) % wm)))) h hc hq (cI_w6 H hs) hkq hv hkp rfl (fun j hj => by rcases hj with rfl | rfl | rfl | rfl | rfl | rfl | rfl | rfl | rfl | rfl | rfl | rfl | rfl | rfl <;> rfl) (fun k k1 k2 k3 => by unfold va_up; rw [if_neg (by omega)]) (fun k _ i hi => by unfold va_up; (by_cases e0 : k = 110; (· rw [if_pos e0, pk_un hi, e0]) ; (· rw [if_neg e0]))) (fun _ _ => rfl) rfl ⟨C0, C1, C4, C5, C6, C7, fun _ => by rw [pk_us, va_us, pk_us], C9, C10⟩ (cR_g.up hg (fun k k1 k2 k3 => by unfold va_up; rw [if_neg (by omega)]) (⟨(p + (wm - 1)) % wm, wm, by rw [va_us, pk_us], h103, hwm, fun _ => Nat.mod_lt _ (by omega)⟩) (r115) (r108) (r113) (i109) (i111) (i112) gdl)
      exact Or.inl (cSt_s h (by rw [hpa, cW_id hs] at hcc; exact hcc) haf rfl (fun R s2 => ct_X11_trip_off l G h21 hcl hc h117 h110 h103 hp hwm))
    · by_cases hrg : A 109 c < A 104 (24 * c + p)
      · exact Or.inl (cSt_r h (ct_X10_trip_r l G h64 h69 h7 hcl hc H hs hq h12 (by rw [hto, C7]; exact Int32.not_le.mpr hrg)) (fun R s2 => ct_X11_trip_low l G h21 hcl hc h117 h110 h103 hp hwm (by decide) hrg))
      · have hpa : cx_pa V (C 8) 1 = nI ((p + 1) % wm) := by rw [c8]; exact cx_pa_n (b := 1) h14 (by omega) (by omega) (by omega)
        have htr : t ≤ r := by rw [er, et, nI_ltI (by omega) (by omega)] at hrg; omega
        have hcc := ct_X10_trip_t l G (sz := sz) h64 h69 h7 hcl hc H hs hq h12 (by rw [hto, C7]; exact Int32.not_lt.mp hrg)
        have haf := cI_clk (M2 := (upd M 0 0)) (A2 := (va_up (va_up A 109 (upd (A 109) c (A 109 c - A 104 (24 * c + p)))) 110 (upd (A 110) c (nI ((p + 1) % wm))))) (L2 := L) (S2 := S1) (C2 := (upd (upd C 7 (A 109 c - A 104 (24 * c + p))) 8 (nI ((p + 1) % wm)))) h hc hq (cI_w6 H hs) hkq hv hkp rfl (fun j hj => by rcases hj with rfl | rfl | rfl | rfl | rfl | rfl | rfl | rfl | rfl | rfl | rfl | rfl | rfl | rfl <;> rfl) (fun k k1 k2 k3 => by unfold va_up; rw [if_neg (by omega), if_neg (by omega)]) (fun k _ i hi => by unfold va_up; (by_cases e0 : k = 110; (· rw [if_pos e0, pk_un hi, e0]) ; (· rw [if_neg e0]; (by_cases e1 : k = 109; (· rw [if_pos e1, pk_un hi, e1]) ; (· rw [if_neg e1]))))) (fun _ _ => rfl) rfl ⟨C0, C1, C4, C5, C6, by rw [va_upn (by decide), va_us, pk_us]; rfl, fun _ => by rw [pk_us, va_us, pk_us], C9, C10⟩ (cR_g.up hg (fun k k1 k2 k3 => by unfold va_up; rw [if_neg (by omega), if_neg (by omega)]) (⟨(p + 1) % wm, wm, by rw [va_us, pk_us], h103, hwm, fun _ => Nat.mod_lt _ (by omega)⟩) (r115) (r108) (r113) (⟨r - t, by omega, by rw [va_upn (by decide), va_us, pk_us, er, et]; exact pk_sub htr⟩) (i111) (i112) gdl)
        exact Or.inl (cSt_s h (by rw [hpa, hto, C7, cW_id hs] at hcc; exact hcc) haf rfl (fun R s2 => ct_X11_trip_on l G h21 hcl hc h117 h110 h103 hp hwm (by decide) hrg))
  · exact cSs_1 (cSx_q (by decide) (by decide) (Or.inl rfl) (ct_X10_trip_f l G hst h64 hx) (fun R s2 => ct_X11_trip_f l G hy))

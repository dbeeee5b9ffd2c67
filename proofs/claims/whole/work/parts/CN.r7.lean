/-! EACH CALL, both ways: the calls that change the keeper's own cells -/
theorem cR_m.up {M M2 : Nat → Int32} {A A2 : Nat → Nat → Int32} {L : Nat → Nat → Int64} {cl mi sd : Nat} (h : cR_m M A L cl mi sd) (eM : ∀ j, j = 1 ∨ j = 12 ∨ j = 13 ∨ j = 21 ∨ j = 22 ∨ j = 49 → M2 j = M j) (eA : ∀ k, 100 ≤ k ∧ k ≤ 122 → A2 k = A k) (k3 : M2 3 = 0 ∨ M2 3 = 1) (k5 : ∃ tp : Nat, tp ≤ 400 ∧ M2 5 = nI tp) (kk : ∃ kx ky : Nat, kx ≤ 99 ∧ ky ≤ 99 ∧ M2 59 = nI kx ∧ M2 60 = nI ky) (hwo : ck_wo M2 A2)
    (h13 : ∃ rn : Nat, rn ≤ 100 ∧ M2 71 = nI rn ∧ ∀ j, j < rn → (∃ m : Nat, m ≤ 100000 ∧ A2 131 j = nI m) ∧ -100000000 ≤ (A2 132 j).toInt ∧ (A2 132 j).toInt ≤ 100000000) (h14 : ∃ ln : Nat, ln ≤ 40 ∧ M2 80 = nI ln ∧ ∀ j, j < ln → ∃ m : Nat, m ≤ 100000 ∧ A2 135 j = nI m) : cR_m M2 A2 L cl mi sd := by
  obtain ⟨⟨c0, w0, -, -, a12, a13, -⟩, a21, a2, a1, a4, -, a49, -, -, a22, a10, aso, ag, ac, -, -⟩ := h
  obtain ⟨kx, ky, b1, b2, b3, b4⟩ := kk
  have eg : ∀ i, cR_ag A A2 i := fun i => ⟨fun k hk => by rw [eA k (by omega)], fun j _ => by rw [eA 102 (by omega)], fun j _ => by rw [eA 104 (by omega)], fun j _ => ⟨by rw [eA 106 (by omega)], by rw [eA 107 (by omega)]⟩, fun j _ => by rw [eA 122 (by omega)]⟩
  refine ⟨⟨c0, w0, kx, ky, (eM 12 (by omega)).trans a12, (eM 13 (by omega)).trans a13, b1, b2, b3, b4⟩, (eM 21 (by omega)).trans a21, a2, (eM 1 (by omega)).trans a1, a4, k3, (eM 49 (by omega)).trans a49, k5, hwo, (eM 22 (by omega)).trans a22, a10, ?_, fun i hi => cR_g_ag (ag i hi) (eg i) rfl, fun i hi => by rw [eA 114 (by omega)]; exact ac i hi, h13, h14⟩
  unfold cR_so
  rw [eA 118 (by omega), eA 119 (by omega), eA 120 (by omega), eA 121 (by omega)]
  exact aso
theorem cI_st {P P2 : kx_P} {sz : Nat} {M M2 : Nat → Int32} {A A2 : Nat → Nat → Int32} {L : Nat → Nat → Int64} {cl mi se : Nat} {bl : Nat → Nat} (h : cI P sz (M, A, L) cl mi se bl) (hm2 : ∀ sd, cR_m M A L cl mi sd → cR_m M2 A2 L cl mi sd) (hst : cR_st P M A cl se bl → cR_st P2 M2 A2 cl se bl) (hP : ∀ n, 93 ≤ n ∨ n = 3 → P2 n = P n) (eA : ∀ k, 100 ≤ k ∧ k ≤ 122 → A2 k = A k) : cR_af P P2 (M2, A2, L) cl mi se sz bl := by
  obtain ⟨sd, hm, hs, hd, -⟩ := h
  refine ⟨sd, hm2 sd hm, hst hs, ?_, fun n hn => hP n (by omega)⟩
  obtain ⟨h1, h2, h3, h4, h5⟩ := hd
  have hb := h1.2.1
  have hcl : cl ≤ 8 := hm.2.2.1
  have eg : ∀ i, cR_ag A A2 i := fun i => ⟨fun k hk => by rw [eA k (by omega)], fun j _ => by rw [eA 102 (by omega)], fun j _ => by rw [eA 104 (by omega)], fun j _ => ⟨by rw [eA 106 (by omega)], by rw [eA 107 (by omega)]⟩, fun j _ => by rw [eA 122 (by omega)]⟩
  refine ⟨h1, fun i hi => ?_, fun h0 => ?_, fun h0 => ?_, fun n hn => (hP n (by have := h1.1; omega)).trans (h5 n hn)⟩
  · have b1 := h1.w hcl hi
    have b2 := h1.c hcl hi
    exact cR_c_fr (h2 i hi) (hm.2.2.2.2.2.2.2.2.2.2.2.2.1 i hi).1.1 (fun n hn => hP n (by omega)) (eg i) rfl
  · obtain ⟨V, T, Q, Fo, St, S, hw⟩ := h3 h0
    have b1 := h1.s h0
    exact ⟨V, T, Q, Fo, St, S, cR_w_fr hw (fun n a b => hP n (by omega))⟩
  · have b1 := h1.n h0
    rw [hP _ (by omega)]
    exact h4 h0
theorem cSt_s {l : Launch} {G : kx_G} {yc ym : kx_S} {Ac Am : List Value} {P P2 : kx_P} {sz : Nat} {M M2 : Nat → Int32} {A A2 : Nat → Nat → Int32} {L L2 : Nat → Nat → Int64} {cl mi se : Nat} {bl : Nat → Nat} {v : Value} {dc dm : Nat} (h : cI P sz (M, A, L) cl mi se bl) (hc : kx_M l G yc dc 0 0 (.ref 64 :: Ac) P sz (some v) P2 sz)
    (haf : cR_af P P2 (M2, A2, L2) cl mi se sz bl) (h0 : M2 0 = 0) (hm : ∀ (R : kx_P) (s2 : Nat), kx_M l G ym dm 0 0 (.ref 93 :: Am) (mW M A L R) s2 (some v) (mW M2 A2 L2 R) s2) (hdc : dc ≤ 50 := by decide) (hdm : dm ≤ 50 := by decide) (hT : cvT ym v := by first | exact cvT_i (by decide) | exact cvT_i (fun h => by cases h) | exact cvT_l rfl) : cSt l G yc ym Ac Am P sz (M, A, L) se bl :=
  cSt_w (M2, A2, L2) hdc hdm (by omega) (by omega) (by omega) hc (Nat.le_refl _) haf (M2, A2, L2) h0 (cq.rf _) hm hT
theorem ir_of {x : Int32} {a b : Int32} (h1 : a ≤ x) (h2 : x ≤ b) : a.toInt ≤ x.toInt ∧ x.toInt ≤ b.toInt := ⟨Int32.le_iff_toInt_le.mp h1, Int32.le_iff_toInt_le.mp h2⟩
theorem nI_of3 {x : Int32} {n : Nat} (hn : n < 2 ^ 31) (h1 : 0 ≤ x) (h2 : x ≤ nI n) : ∃ j : Nat, j ≤ n ∧ x = nI j := nI_of2 (nI_toInt hn) (Int32.not_lt.mpr h1) h2
theorem cx_ip_1 {x y : Int32} (hx : 0 ≤ x ∧ x ≤ 99) (hy : 0 ≤ y ∧ y ≤ 99) : cx_ip x y = 1 := by
  unfold cx_ip
  rw [if_neg (Int32.not_lt.mpr hx.1), if_neg (Int32.not_lt.mpr hx.2), if_neg (Int32.not_lt.mpr hy.1), if_neg (Int32.not_lt.mpr hy.2)]
theorem cx_ip_0 {x y : Int32} (h : ¬ ((0 ≤ x ∧ x ≤ 99) ∧ (0 ≤ y ∧ y ≤ 99))) : cx_ip x y = 0 := by
  unfold cx_ip
  by_cases h1 : x < 0
  · rw [if_pos h1]
  by_cases h2 : 99 < x
  · rw [if_neg h1, if_pos h2]
  by_cases h3 : y < 0
  · rw [if_neg h1, if_neg h2, if_pos h3]
  by_cases h4 : 99 < y
  · rw [if_neg h1, if_neg h2, if_neg h3, if_pos h4]
  exact absurd ⟨⟨Int32.not_lt.mp h1, Int32.not_lt.mp h2⟩, Int32.not_lt.mp h3, Int32.not_lt.mp h4⟩ h
theorem cx_im_1 {x : Int32} (hx : 0 ≤ x ∧ x ≤ 100000) : cx_im x = 1 := by
  unfold cx_im
  rw [if_neg (Int32.not_lt.mpr hx.1), if_neg (Int32.not_lt.mpr hx.2)]
theorem cx_im_0 {x : Int32} (h : ¬ (0 ≤ x ∧ x ≤ 100000)) : cx_im x = 0 := by
  unfold cx_im
  by_cases h1 : x < 0
  · rw [if_pos h1]
  by_cases h2 : 100000 < x
  · rw [if_neg h1, if_pos h2]
  exact absurd ⟨Int32.not_lt.mp h1, Int32.not_lt.mp h2⟩ h

theorem cs_leap (l : Launch) (G : kx_G) {P : kx_P} {sz : Nat} {M : Nat → Int32} {A : Nat → Nat → Int32} {L : Nat → Nat → Int64} {cl mi se : Nat} {bl : Nat → Nat} (h : cI P sz (M, A, L) cl mi se bl) (b : Int32) (hb : b = 0 ∨ b = 1) : cSs l G sX10_leap sX11_leap [.int b] [.int b] P sz (M, A, L) se bl [] := by
  obtain ⟨K, h64, h69, h7, hcl, k2, k5, k10, k11, h21⟩ := cI_k h
  obtain ⟨sd, ⟨⟨c0, w0, kx, ky, a12, a13, kx9, ky9, a59, a60⟩, a21, a2, a1, a4, a3, a49, ⟨tp, tp4, a5⟩, awo, a22, a10, aso, ag, ac, ⟨rn, rn1, a71, ard⟩, ⟨ln, ln1, a80, alw⟩⟩, hs9, -⟩ := id h
  obtain ⟨⟨K0, p64, c2, c5, c7, c10, c11⟩, ⟨Al, p65, al0, al1, al3⟩, p66, p67, p68, p69, p70, ⟨Fs, p71, f4⟩, p72, p76, p77, p78, p79, p80, p81, p82, p83, ⟨Fr, p84, r4⟩, ⟨p85, p86, p87, p88⟩, ⟨Fl, p89, f3⟩, ⟨p90, p91, p92⟩, p1, p2⟩ := id hs9
  have al0 : Al 0 = M 1 := al0
  have al1 : Al 1 = M 3 := al1
  have al3 : Al 3 = M 2 := al3
  have f4 : Fs 4 = M 22 := f4
  have r4 : Fr 4 = M 71 := r4
  have f3 : Fl 3 = M 80 := f3
  have a1 : M 1 = nI mi := a1
  have a5 : M 5 = nI tp := a5
  have a71 : M 71 = nI rn := a71
  have a80 : M 80 = nI ln := a80
  have awo : ck_wo M A := awo
  have hv9 : Al 1 = 0 ∨ Al 1 = 1 := by rw [al1]; exact a3
  have hcc := ct_X10_leap_t l G (sz := sz) h64 p65 hb hv9
  have hm9 := fun (R : kx_P) (s2 : Nat) => ct_X11_leap l G (M := M) (A := A) (L := L) (R := R) (sz := s2) hb a3
  have haf : cR_af P (kx_set P 65 (kO 0 (kf cr0 (upd Al 1 b)))) ((upd (upd M 0 0) 3 b), A, L) cl mi se sz bl := by
    have q : ∀ n, (¬ n = 65) → 0 < 1 → (kx_set P 65 (kO 0 (kf cr0 (upd Al 1 b)))) n = P n := fun n hn _ => by rw [ks_ne (by omega)]
    have m : ∀ j, (¬ j = 0 ∧ ¬ j = 3) → (upd (upd M 0 0) 3 b) j = M j := fun j hj => by unfold upd; rw [if_neg (by omega), if_neg (by omega)]
    refine cI_st h (fun sd9 hm0 => ?_) (fun _ => ?_) (fun n hn => q n (by omega) (by omega)) (fun _ _ => rfl)
    · exact hm0.up (fun j hj => m j (by omega)) (fun _ _ => rfl) (hb) (⟨tp, tp4, a5⟩) (⟨kx, ky, kx9, ky9, a59, a60⟩) (awo) (⟨rn, rn1, a71, ard⟩) (⟨ln, ln1, a80, alw⟩)
    · clear hcc hm9
      obtain ⟨p64, p65, p66, p67, p68, p69, p70, p71, p72, p76, p77, p78, p79, p80, p81, p82, p83, p84, p85, p89, p90, p1, p2⟩ := id hs9
      unfold cR_st
      unfold cx_SR at p72 ⊢
      rw [q 64 (by omega) (by omega), q 66 (by omega) (by omega), q 67 (by omega) (by omega), q 68 (by omega) (by omega), q 69 (by omega) (by omega), q 70 (by omega) (by omega), q 71 (by omega) (by omega), q 72 (by omega) (by omega), q 73 (by omega) (by omega), q 74 (by omega) (by omega), q 75 (by omega) (by omega), q 76 (by omega) (by omega), q 77 (by omega) (by omega), q 78 (by omega) (by omega), q 79 (by omega) (by omega), q 80 (by omega) (by omega), q 81 (by omega) (by omega), q 82 (by omega) (by omega), q 83 (by omega) (by omega), q 84 (by omega) (by omega), q 85 (by omega) (by omega), q 86 (by omega) (by omega), q 87 (by omega) (by omega), q 88 (by omega) (by omega), q 89 (by omega) (by omega), q 90 (by omega) (by omega), q 91 (by omega) (by omega), q 92 (by omega) (by omega), q 1 (by omega) (by omega), q 2 (by omega) (by omega)]
      rw [m 5 (by omega), m 14 (by omega), m 21 (by omega), m 59 (by omega), m 60 (by omega), m 22 (by omega), m 71 (by omega), m 80 (by omega)]
      exact ⟨p64, ⟨_, ks_eq _ _ _, al0, rfl, al3⟩, p66, p67, p68, p69, p70, p71, p72, p76, p77, p78, p79, p80, p81, p82, p83, p84, p85, p89, p90, p1, p2⟩
  exact Or.inl (cSt_s h (by rw [al1] at hcc; exact hcc) haf (by first | rfl | exact pk_us) hm9)

theorem cs_warmth (l : Launch) (G : kx_G) (hst : l.stackTraces = false) {P : kx_P} {sz : Nat} {M : Nat → Int32} {A : Nat → Nat → Int32} {L : Nat → Nat → Int64} {cl mi se : Nat} {bl : Nat → Nat} (h : cI P sz (M, A, L) cl mi se bl) (d : Int32) : cSs l G sX10_warmth sX11_warmth [.int d] [.int d] P sz (M, A, L) se bl cS_A := by
  obtain ⟨K, h64, h69, h7, hcl, k2, k5, k10, k11, h21⟩ := cI_k h
  obtain ⟨sd, ⟨⟨c0, w0, kx, ky, a12, a13, kx9, ky9, a59, a60⟩, a21, a2, a1, a4, a3, a49, ⟨tp, tp4, a5⟩, awo, a22, a10, aso, ag, ac, ⟨rn, rn1, a71, ard⟩, ⟨ln, ln1, a80, alw⟩⟩, hs9, -⟩ := id h
  obtain ⟨⟨K0, p64, c2, c5, c7, c10, c11⟩, ⟨Al, p65, al0, al1, al3⟩, p66, p67, p68, p69, p70, ⟨Fs, p71, f4⟩, p72, p76, p77, p78, p79, p80, p81, p82, p83, ⟨Fr, p84, r4⟩, ⟨p85, p86, p87, p88⟩, ⟨Fl, p89, f3⟩, ⟨p90, p91, p92⟩, p1, p2⟩ := id hs9
  have al0 : Al 0 = M 1 := al0
  have al1 : Al 1 = M 3 := al1
  have al3 : Al 3 = M 2 := al3
  have f4 : Fs 4 = M 22 := f4
  have r4 : Fr 4 = M 71 := r4
  have f3 : Fl 3 = M 80 := f3
  have a1 : M 1 = nI mi := a1
  have a5 : M 5 = nI tp := a5
  have a71 : M 71 = nI rn := a71
  have a80 : M 80 = nI ln := a80
  have awo : ck_wo M A := awo
  obtain ⟨w, hw, h2, hwr⟩ := id awo
  by_cases hd : (-30) ≤ d ∧ d ≤ 50
  · by_cases hw7 : w < 1700
    · have hd2 := ir_of hd.1 hd.2
      have hcc := ct_X10_warmth_t l G (sz := sz) h64 p65 p66 hd.1 hd.2 (al3.trans h2) hw7
      have hm9 := fun (R : kx_P) (s2 : Nat) => ct_X11_warmth_t l G (M := M) (A := A) (L := L) (R := R) (sz := s2) hd h2 hw7
      have haf : cR_af P (kx_set (kx_set P 66 (kI 0 1700 (upd (A 94) w d))) 65 (kO 0 (kf cr0 (upd Al 3 (nI (w + 1)))))) ((upd (upd M 0 0) 2 (nI (w + 1))), (va_up A 94 (upd (A 94) w d)), L) cl mi se sz bl := by
        have q : ∀ n, (¬ n = 65 ∧ ¬ n = 66) → 0 < 1 → (kx_set (kx_set P 66 (kI 0 1700 (upd (A 94) w d))) 65 (kO 0 (kf cr0 (upd Al 3 (nI (w + 1)))))) n = P n := fun n hn _ => by rw [ks_ne (by omega)]; rw [ks_ne (by omega)]
        have m : ∀ j, (¬ j = 0 ∧ ¬ j = 2) → (upd (upd M 0 0) 2 (nI (w + 1))) j = M j := fun j hj => by unfold upd; rw [if_neg (by omega), if_neg (by omega)]
        have g : ∀ k, (¬ k = 94) → (va_up A 94 (upd (A 94) w d)) k = A k := fun k hk => by unfold va_up; rw [if_neg (by omega)]
        refine cI_st h (fun sd9 hm0 => ?_) (fun _ => ?_) (fun n hn => q n (by omega) (by omega)) (fun k hk => g k (by omega))
        · exact hm0.up (fun j hj => m j (by omega)) (fun k hk => g k (by omega)) (a3) (⟨tp, tp4, a5⟩) (⟨kx, ky, kx9, ky9, a59, a60⟩) (⟨w + 1, by omega, rfl, fun j hj => by show -30 ≤ (upd (A 94) w d j).toInt ∧ (upd (A 94) w d j).toInt ≤ 50; by_cases e : j = w; (· rw [e, pk_us]; exact hd2); (· rw [pk_un e]; exact hwr j (by omega))⟩) (⟨rn, rn1, a71, ard⟩) (⟨ln, ln1, a80, alw⟩)
        · clear hcc hm9
          obtain ⟨p64, p65, p66, p67, p68, p69, p70, p71, p72, p76, p77, p78, p79, p80, p81, p82, p83, p84, p85, p89, p90, p1, p2⟩ := id hs9
          unfold cR_st
          unfold cx_SR at p72 ⊢
          rw [q 64 (by omega) (by omega), q 67 (by omega) (by omega), q 68 (by omega) (by omega), q 69 (by omega) (by omega), q 70 (by omega) (by omega), q 71 (by omega) (by omega), q 72 (by omega) (by omega), q 73 (by omega) (by omega), q 74 (by omega) (by omega), q 75 (by omega) (by omega), q 76 (by omega) (by omega), q 77 (by omega) (by omega), q 78 (by omega) (by omega), q 79 (by omega) (by omega), q 80 (by omega) (by omega), q 81 (by omega) (by omega), q 82 (by omega) (by omega), q 83 (by omega) (by omega), q 84 (by omega) (by omega), q 85 (by omega) (by omega), q 86 (by omega) (by omega), q 87 (by omega) (by omega), q 88 (by omega) (by omega), q 89 (by omega) (by omega), q 90 (by omega) (by omega), q 91 (by omega) (by omega), q 92 (by omega) (by omega), q 1 (by omega) (by omega), q 2 (by omega) (by omega)]
          rw [m 5 (by omega), m 14 (by omega), m 21 (by omega), m 59 (by omega), m 60 (by omega), m 22 (by omega), m 71 (by omega), m 80 (by omega)]
          rw [g 95 (by omega), g 118 (by omega), g 119 (by omega), g 120 (by omega), g 121 (by omega), g 130 (by omega), g 131 (by omega), g 132 (by omega), g 133 (by omega), g 134 (by omega), g 135 (by omega), g 136 (by omega)]
          exact ⟨p64, ⟨_, ks_eq _ _ _, al0, al1, rfl⟩, (ks_ne (by decide)).trans (ks_eq _ _ _), p67, p68, p69, p70, p71, p72, p76, p77, p78, p79, p80, p81, p82, p83, p84, p85, p89, p90, p1, p2⟩
      exact Or.inl (cSt_s h hcc haf (by first | rfl | exact pk_us) hm9)
    · obtain rfl : w = 1700 := by omega
      exact Or.inl (cSt_r h (ct_X10_warmth_n l G h64 p65 p66 hd.1 hd.2 (al3.trans h2)) (fun R s2 => ct_X11_warmth_n l G hd h2))
  · exact cSs_1 (cSx_q (by decide) (by decide) (Or.inl rfl) (ct_X10_warmth_b l G hst h64 hd) (fun R s2 => ct_X11_warmth_f l G hd))

theorem cs_keeper (l : Launch) (G : kx_G) (hst : l.stackTraces = false) {P : kx_P} {sz : Nat} {M : Nat → Int32} {A : Nat → Nat → Int32} {L : Nat → Nat → Int64} {cl mi se : Nat} {bl : Nat → Nat} (h : cI P sz (M, A, L) cl mi se bl) (x y : Int32) : cSs l G sX10_keeper sX11_keeper [.int x, .int y] [.int x, .int y] P sz (M, A, L) se bl cS_A := by
  obtain ⟨K, h64, h69, h7, hcl, k2, k5, k10, k11, h21⟩ := cI_k h
  obtain ⟨sd, ⟨⟨c0, w0, kx, ky, a12, a13, kx9, ky9, a59, a60⟩, a21, a2, a1, a4, a3, a49, ⟨tp, tp4, a5⟩, awo, a22, a10, aso, ag, ac, ⟨rn, rn1, a71, ard⟩, ⟨ln, ln1, a80, alw⟩⟩, hs9, -⟩ := id h
  obtain ⟨⟨K0, p64, c2, c5, c7, c10, c11⟩, ⟨Al, p65, al0, al1, al3⟩, p66, p67, p68, p69, p70, ⟨Fs, p71, f4⟩, p72, p76, p77, p78, p79, p80, p81, p82, p83, ⟨Fr, p84, r4⟩, ⟨p85, p86, p87, p88⟩, ⟨Fl, p89, f3⟩, ⟨p90, p91, p92⟩, p1, p2⟩ := id hs9
  have al0 : Al 0 = M 1 := al0
  have al1 : Al 1 = M 3 := al1
  have al3 : Al 3 = M 2 := al3
  have f4 : Fs 4 = M 22 := f4
  have r4 : Fr 4 = M 71 := r4
  have f3 : Fl 3 = M 80 := f3
  have a1 : M 1 = nI mi := a1
  have a5 : M 5 = nI tp := a5
  have a71 : M 71 = nI rn := a71
  have a80 : M 80 = nI ln := a80
  have awo : ck_wo M A := awo
  by_cases hx : 0 ≤ x ∧ x ≤ 99
  · by_cases hy : 0 ≤ y ∧ y ≤ 99
    · obtain ⟨u, u1, u2⟩ := nI_of3 (n := 99) (by decide) hx.1 hx.2
      obtain ⟨v, v1, v2⟩ := nI_of3 (n := 99) (by decide) hy.1 hy.2
      have hcc := ct_X10_keeper_t l G (sz := sz) h64 (cx_ip_1 hx hy)
      have hm9 := fun (R : kx_P) (s2 : Nat) => ct_X11_keeper_t l G (M := M) (A := A) (L := L) (R := R) (sz := s2) hx hy
      have haf : cR_af P (kx_set P 64 (kO 10 (kf (cr10 (cR_sv (bl 16))) (upd (upd K 10 x) 11 y)))) ((upd (upd (upd M 0 0) 59 x) 60 y), A, L) cl mi se sz bl := by
        have q : ∀ n, (¬ n = 64) → 0 < 1 → (kx_set P 64 (kO 10 (kf (cr10 (cR_sv (bl 16))) (upd (upd K 10 x) 11 y)))) n = P n := fun n hn _ => by rw [ks_ne (by omega)]
        have m : ∀ j, (¬ j = 0 ∧ ¬ j = 59 ∧ ¬ j = 60) → (upd (upd (upd M 0 0) 59 x) 60 y) j = M j := fun j hj => by unfold upd; rw [if_neg (by omega), if_neg (by omega), if_neg (by omega)]
        refine cI_st h (fun sd9 hm0 => ?_) (fun _ => ?_) (fun n hn => q n (by omega) (by omega)) (fun _ _ => rfl)
        · exact hm0.up (fun j hj => m j (by omega)) (fun _ _ => rfl) (a3) (⟨tp, tp4, a5⟩) (⟨u, v, u1, v1, u2, v2⟩) (awo) (⟨rn, rn1, a71, ard⟩) (⟨ln, ln1, a80, alw⟩)
        · clear hcc hm9
          obtain ⟨p64, p65, p66, p67, p68, p69, p70, p71, p72, p76, p77, p78, p79, p80, p81, p82, p83, p84, p85, p89, p90, p1, p2⟩ := id hs9
          unfold cR_st
          unfold cx_SR at p72 ⊢
          rw [q 65 (by omega) (by omega), q 66 (by omega) (by omega), q 67 (by omega) (by omega), q 68 (by omega) (by omega), q 69 (by omega) (by omega), q 70 (by omega) (by omega), q 71 (by omega) (by omega), q 72 (by omega) (by omega), q 73 (by omega) (by omega), q 74 (by omega) (by omega), q 75 (by omega) (by omega), q 76 (by omega) (by omega), q 77 (by omega) (by omega), q 78 (by omega) (by omega), q 79 (by omega) (by omega), q 80 (by omega) (by omega), q 81 (by omega) (by omega), q 82 (by omega) (by omega), q 83 (by omega) (by omega), q 84 (by omega) (by omega), q 85 (by omega) (by omega), q 86 (by omega) (by omega), q 87 (by omega) (by omega), q 88 (by omega) (by omega), q 89 (by omega) (by omega), q 90 (by omega) (by omega), q 91 (by omega) (by omega), q 92 (by omega) (by omega), q 1 (by omega) (by omega), q 2 (by omega) (by omega)]
          rw [m 1 (by omega), m 3 (by omega), m 2 (by omega), m 22 (by omega), m 71 (by omega), m 80 (by omega)]
          exact ⟨⟨_, ks_eq _ _ _, k2, k5, h7.trans h21.symm, rfl, rfl⟩, p65, p66, p67, p68, p69, p70, p71, p72, p76, p77, p78, p79, p80, p81, p82, p83, p84, p85, p89, p90, p1, p2⟩
      exact Or.inl (cSt_s h (by rw [k10, k11] at hcc; exact hcc) haf (by first | rfl | exact pk_us) hm9)
    · exact cSs_1 (cSx_q (by decide) (by decide) (Or.inl rfl) (ct_X10_keeper_b l G hst (cx_ip_0 (fun z => hy z.2))) (fun R s2 => ct_X11_keeper_by l G hx hy))
  · exact cSs_1 (cSx_q (by decide) (by decide) (Or.inl rfl) (ct_X10_keeper_b l G hst (cx_ip_0 (fun z => hx z.1))) (fun R s2 => ct_X11_keeper_bx l G hx))

theorem cs_read (l : Launch) (G : kx_G) (hst : l.stackTraces = false) {P : kx_P} {sz : Nat} {M : Nat → Int32} {A : Nat → Nat → Int32} {L : Nat → Nat → Int64} {cl mi se : Nat} {bl : Nat → Nat} (h : cI P sz (M, A, L) cl mi se bl) (x i e : Int32) : cSs l G sX10_read sX11_read [.int x, .int i, .int e] [.int x, .int i, .int e] P sz (M, A, L) se bl cS_NA := by
  obtain ⟨K, h64, h69, h7, hcl, k2, k5, k10, k11, h21⟩ := cI_k h
  obtain ⟨sd, ⟨⟨c0, w0, kx, ky, a12, a13, kx9, ky9, a59, a60⟩, a21, a2, a1, a4, a3, a49, ⟨tp, tp4, a5⟩, awo, a22, a10, aso, ag, ac, ⟨rn, rn1, a71, ard⟩, ⟨ln, ln1, a80, alw⟩⟩, hs9, -⟩ := id h
  obtain ⟨⟨K0, p64, c2, c5, c7, c10, c11⟩, ⟨Al, p65, al0, al1, al3⟩, p66, p67, p68, p69, p70, ⟨Fs, p71, f4⟩, p72, p76, p77, p78, p79, p80, p81, p82, p83, ⟨Fr, p84, r4⟩, ⟨p85, p86, p87, p88⟩, ⟨Fl, p89, f3⟩, ⟨p90, p91, p92⟩, p1, p2⟩ := id hs9
  have al0 : Al 0 = M 1 := al0
  have al1 : Al 1 = M 3 := al1
  have al3 : Al 3 = M 2 := al3
  have f4 : Fs 4 = M 22 := f4
  have r4 : Fr 4 = M 71 := r4
  have f3 : Fl 3 = M 80 := f3
  have a1 : M 1 = nI mi := a1
  have a5 : M 5 = nI tp := a5
  have a71 : M 71 = nI rn := a71
  have a80 : M 80 = nI ln := a80
  have awo : ck_wo M A := awo
  rcases cl_ix hcl h7 h21 x with ⟨c, hc, rfl⟩ | ⟨hx, hy⟩
  · by_cases hi : 0 ≤ i ∧ i ≤ M 1
    · by_cases he : (-100000000) ≤ e ∧ e ≤ 100000000
      · have hi2 : i ≤ Al 0 := by rw [al0]; exact hi.2
        by_cases hr : rn < 100
        · obtain ⟨u, u1, u2⟩ := nI_of3 (n := mi) (by omega) hi.1 (by rw [← a1]; exact hi.2)
          have he2 := ir_of he.1 he.2
          have hcc := ct_X10_read_t l G (sz := sz) h64 h69 h7 hcl hc p65 p84 p85 p86 p87 p88 hi.1 hi2 he.1 he.2 (r4.trans a71) hr
          have hm9 := fun (R : kx_P) (s2 : Nat) => ct_X11_read_t l G (M := M) (A := A) (L := L) (R := R) (sz := s2) h21 hcl hc hi he a71 hr
          have haf : cR_af P (kx_set (kx_set (kx_set (kx_set (kx_set P 85 (kI 0 100 (upd (A 130) rn (nI c)))) 86 (kI 0 100 (upd (A 131) rn i))) 87 (kI 0 100 (upd (A 132) rn e))) 88 (kI 0 100 (upd (A 133) rn (M 1)))) 84 (kO 5 (kf cr5 (upd Fr 4 (nI (rn + 1)))))) ((upd (upd M 0 0) 71 (nI (rn + 1))), (ck_readA A rn (nI c) i e (M 1)), L) cl mi se sz bl := by
            have q : ∀ n, (¬ n = 84 ∧ ¬ n = 88 ∧ ¬ n = 87 ∧ ¬ n = 86 ∧ ¬ n = 85) → 0 < 1 → (kx_set (kx_set (kx_set (kx_set (kx_set P 85 (kI 0 100 (upd (A 130) rn (nI c)))) 86 (kI 0 100 (upd (A 131) rn i))) 87 (kI 0 100 (upd (A 132) rn e))) 88 (kI 0 100 (upd (A 133) rn (M 1)))) 84 (kO 5 (kf cr5 (upd Fr 4 (nI (rn + 1)))))) n = P n := fun n hn _ => by rw [ks_ne (by omega)]; rw [ks_ne (by omega)]; rw [ks_ne (by omega)]; rw [ks_ne (by omega)]; rw [ks_ne (by omega)]
            have m : ∀ j, (¬ j = 0 ∧ ¬ j = 71) → (upd (upd M 0 0) 71 (nI (rn + 1))) j = M j := fun j hj => by unfold upd; rw [if_neg (by omega), if_neg (by omega)]
            have g : ∀ k, (¬ k = 133 ∧ ¬ k = 132 ∧ ¬ k = 131 ∧ ¬ k = 130) → (ck_readA A rn (nI c) i e (M 1)) k = A k := fun k hk => by unfold ck_readA; unfold va_up; rw [if_neg (by omega), if_neg (by omega), if_neg (by omega), if_neg (by omega)]
            refine cI_st h (fun sd9 hm0 => ?_) (fun _ => ?_) (fun n hn => q n (by omega) (by omega)) (fun k hk => g k (by omega))
            · exact hm0.up (fun j hj => m j (by omega)) (fun k hk => g k (by omega)) (a3) (⟨tp, tp4, a5⟩) (⟨kx, ky, kx9, ky9, a59, a60⟩) (awo) (⟨rn + 1, by omega, rfl, fun j hj => by show (∃ m : Nat, m ≤ 100000 ∧ upd (A 131) rn i j = nI m) ∧ -100000000 ≤ (upd (A 132) rn e j).toInt ∧ (upd (A 132) rn e j).toInt ≤ 100000000; by_cases ej : j = rn; (· rw [ej, pk_us, pk_us]; exact ⟨⟨u, by omega, u2⟩, he2⟩); (· rw [pk_un ej, pk_un ej]; exact ard j (by omega))⟩) (⟨ln, ln1, a80, alw⟩)
            · clear hcc hm9
              obtain ⟨p64, p65, p66, p67, p68, p69, p70, p71, p72, p76, p77, p78, p79, p80, p81, p82, p83, p84, p85, p89, p90, p1, p2⟩ := id hs9
              unfold cR_st
              unfold cx_SR at p72 ⊢
              rw [q 64 (by omega) (by omega), q 65 (by omega) (by omega), q 66 (by omega) (by omega), q 67 (by omega) (by omega), q 68 (by omega) (by omega), q 69 (by omega) (by omega), q 70 (by omega) (by omega), q 71 (by omega) (by omega), q 72 (by omega) (by omega), q 73 (by omega) (by omega), q 74 (by omega) (by omega), q 75 (by omega) (by omega), q 76 (by omega) (by omega), q 77 (by omega) (by omega), q 78 (by omega) (by omega), q 79 (by omega) (by omega), q 80 (by omega) (by omega), q 81 (by omega) (by omega), q 82 (by omega) (by omega), q 83 (by omega) (by omega), q 89 (by omega) (by omega), q 90 (by omega) (by omega), q 91 (by omega) (by omega), q 92 (by omega) (by omega), q 1 (by omega) (by omega), q 2 (by omega) (by omega)]
              rw [m 5 (by omega), m 14 (by omega), m 21 (by omega), m 59 (by omega), m 60 (by omega), m 1 (by omega), m 3 (by omega), m 2 (by omega), m 22 (by omega), m 80 (by omega)]
              rw [g 94 (by omega), g 95 (by omega), g 118 (by omega), g 119 (by omega), g 120 (by omega), g 121 (by omega), g 134 (by omega), g 135 (by omega), g 136 (by omega)]
              exact ⟨p64, p65, p66, p67, p68, p69, p70, p71, p72, p76, p77, p78, p79, p80, p81, p82, p83, ⟨_, ks_eq _ _ _, rfl⟩, ⟨(ks_ne (by decide)).trans ((ks_ne (by decide)).trans ((ks_ne (by decide)).trans ((ks_ne (by decide)).trans (ks_eq _ _ _)))), (ks_ne (by decide)).trans ((ks_ne (by decide)).trans ((ks_ne (by decide)).trans (ks_eq _ _ _))), (ks_ne (by decide)).trans ((ks_ne (by decide)).trans (ks_eq _ _ _)), (ks_ne (by decide)).trans (ks_eq _ _ _)⟩, p89, p90, p1, p2⟩
          exact Or.inl (cSt_s h (by rw [al0] at hcc; exact hcc) haf (by first | rfl | exact pk_us) hm9)
        · obtain rfl : rn = 100 := by omega
          exact Or.inl (cSt_r h (ct_X10_read_n l G h64 h69 h7 hcl hc p65 p84 p85 p86 p87 p88 hi.1 hi2 he.1 he.2 (r4.trans a71)) (fun R s2 => ct_X11_read_n l G h21 hcl hc hi he a71))
      · exact cSs_2 (cSx_q (by decide) (by decide) (Or.inl rfl) (ct_X10_read_b l G hst h64 h69 h7 hcl hc p65 (fun z => he ⟨z.2.2.1, z.2.2.2⟩)) (fun R s2 => ct_X11_read_be l G h21 hcl hc hi he))
    · exact cSs_2 (cSx_q (by decide) (by decide) (Or.inl rfl) (ct_X10_read_b l G hst h64 h69 h7 hcl hc p65 (fun z => hi ⟨z.1, by rw [← al0]; exact z.2.1⟩)) (fun R s2 => ct_X11_read_bi l G h21 hcl hc hi))
  · exact cSs_1 (cSx_q (by decide) (by decide) (Or.inl rfl) (ct_X10_read_f l G hst h64 hx) (fun R s2 => ct_X11_read_f l G hy))

theorem cs_law (l : Launch) (G : kx_G) (hst : l.stackTraces = false) {P : kx_P} {sz : Nat} {M : Nat → Int32} {A : Nat → Nat → Int32} {L : Nat → Nat → Int64} {cl mi se : Nat} {bl : Nat → Nat} (h : cI P sz (M, A, L) cl mi se bl) (x i : Int32) : cSs l G sX10_law sX11_law [.int x, .int i] [.int x, .int i] P sz (M, A, L) se bl cS_NA := by
  obtain ⟨K, h64, h69, h7, hcl, k2, k5, k10, k11, h21⟩ := cI_k h
  obtain ⟨sd, ⟨⟨c0, w0, kx, ky, a12, a13, kx9, ky9, a59, a60⟩, a21, a2, a1, a4, a3, a49, ⟨tp, tp4, a5⟩, awo, a22, a10, aso, ag, ac, ⟨rn, rn1, a71, ard⟩, ⟨ln, ln1, a80, alw⟩⟩, hs9, -⟩ := id h
  obtain ⟨⟨K0, p64, c2, c5, c7, c10, c11⟩, ⟨Al, p65, al0, al1, al3⟩, p66, p67, p68, p69, p70, ⟨Fs, p71, f4⟩, p72, p76, p77, p78, p79, p80, p81, p82, p83, ⟨Fr, p84, r4⟩, ⟨p85, p86, p87, p88⟩, ⟨Fl, p89, f3⟩, ⟨p90, p91, p92⟩, p1, p2⟩ := id hs9
  have al0 : Al 0 = M 1 := al0
  have al1 : Al 1 = M 3 := al1
  have al3 : Al 3 = M 2 := al3
  have f4 : Fs 4 = M 22 := f4
  have r4 : Fr 4 = M 71 := r4
  have f3 : Fl 3 = M 80 := f3
  have a1 : M 1 = nI mi := a1
  have a5 : M 5 = nI tp := a5
  have a71 : M 71 = nI rn := a71
  have a80 : M 80 = nI ln := a80
  have awo : ck_wo M A := awo
  rcases cl_ix hcl h7 h21 x with ⟨c, hc, rfl⟩ | ⟨hx, hy⟩
  · by_cases hi : 0 ≤ i ∧ i ≤ 100000
    · by_cases hr : ln < 40
      · obtain ⟨u, u1, u2⟩ := nI_of3 (n := 100000) (by omega) hi.1 hi.2
        have hcc := ct_X10_law_t l G (sz := sz) h64 h69 h7 hcl hc p65 p89 p90 p91 p92 (cx_im_1 hi) (f3.trans a80) hr
        have hm9 := fun (R : kx_P) (s2 : Nat) => ct_X11_law_t l G (M := M) (A := A) (L := L) (R := R) (sz := s2) h21 hcl hc hi a80 hr
        have haf : cR_af P (kx_set (kx_set (kx_set (kx_set P 90 (kI 0 40 (upd (A 134) ln (nI c)))) 91 (kI 0 40 (upd (A 135) ln i))) 92 (kI 0 40 (upd (A 136) ln (M 1)))) 89 (kO 3 (kf cr3 (upd Fl 3 (nI (ln + 1)))))) ((upd (upd M 0 0) 80 (nI (ln + 1))), (ck_lawA A ln (nI c) i (M 1)), L) cl mi se sz bl := by
          have q : ∀ n, (¬ n = 89 ∧ ¬ n = 92 ∧ ¬ n = 91 ∧ ¬ n = 90) → 0 < 1 → (kx_set (kx_set (kx_set (kx_set P 90 (kI 0 40 (upd (A 134) ln (nI c)))) 91 (kI 0 40 (upd (A 135) ln i))) 92 (kI 0 40 (upd (A 136) ln (M 1)))) 89 (kO 3 (kf cr3 (upd Fl 3 (nI (ln + 1)))))) n = P n := fun n hn _ => by rw [ks_ne (by omega)]; rw [ks_ne (by omega)]; rw [ks_ne (by omega)]; rw [ks_ne (by omega)]
          have m : ∀ j, (¬ j = 0 ∧ ¬ j = 80) → (upd (upd M 0 0) 80 (nI (ln + 1))) j = M j := fun j hj => by unfold upd; rw [if_neg (by omega), if_neg (by omega)]
          have g : ∀ k, (¬ k = 136 ∧ ¬ k = 135 ∧ ¬ k = 134) → (ck_lawA A ln (nI c) i (M 1)) k = A k := fun k hk => by unfold ck_lawA; unfold va_up; rw [if_neg (by omega), if_neg (by omega), if_neg (by omega)]
          refine cI_st h (fun sd9 hm0 => ?_) (fun _ => ?_) (fun n hn => q n (by omega) (by omega)) (fun k hk => g k (by omega))
          · exact hm0.up (fun j hj => m j (by omega)) (fun k hk => g k (by omega)) (a3) (⟨tp, tp4, a5⟩) (⟨kx, ky, kx9, ky9, a59, a60⟩) (awo) (⟨rn, rn1, a71, ard⟩) (⟨ln + 1, by omega, rfl, fun j hj => by show ∃ m : Nat, m ≤ 100000 ∧ upd (A 135) ln i j = nI m; by_cases ej : j = ln; (· rw [ej, pk_us]; exact ⟨u, u1, u2⟩); (· rw [pk_un ej]; exact alw j (by omega))⟩)
          · clear hcc hm9
            obtain ⟨p64, p65, p66, p67, p68, p69, p70, p71, p72, p76, p77, p78, p79, p80, p81, p82, p83, p84, p85, p89, p90, p1, p2⟩ := id hs9
            unfold cR_st
            unfold cx_SR at p72 ⊢
            rw [q 64 (by omega) (by omega), q 65 (by omega) (by omega), q 66 (by omega) (by omega), q 67 (by omega) (by omega), q 68 (by omega) (by omega), q 69 (by omega) (by omega), q 70 (by omega) (by omega), q 71 (by omega) (by omega), q 72 (by omega) (by omega), q 73 (by omega) (by omega), q 74 (by omega) (by omega), q 75 (by omega) (by omega), q 76 (by omega) (by omega), q 77 (by omega) (by omega), q 78 (by omega) (by omega), q 79 (by omega) (by omega), q 80 (by omega) (by omega), q 81 (by omega) (by omega), q 82 (by omega) (by omega), q 83 (by omega) (by omega), q 84 (by omega) (by omega), q 85 (by omega) (by omega), q 86 (by omega) (by omega), q 87 (by omega) (by omega), q 88 (by omega) (by omega), q 1 (by omega) (by omega), q 2 (by omega) (by omega)]
            rw [m 5 (by omega), m 14 (by omega), m 21 (by omega), m 59 (by omega), m 60 (by omega), m 1 (by omega), m 3 (by omega), m 2 (by omega), m 22 (by omega), m 71 (by omega)]
            rw [g 94 (by omega), g 95 (by omega), g 118 (by omega), g 119 (by omega), g 120 (by omega), g 121 (by omega), g 130 (by omega), g 131 (by omega), g 132 (by omega), g 133 (by omega)]
            exact ⟨p64, p65, p66, p67, p68, p69, p70, p71, p72, p76, p77, p78, p79, p80, p81, p82, p83, p84, p85, ⟨_, ks_eq _ _ _, rfl⟩, ⟨(ks_ne (by decide)).trans ((ks_ne (by decide)).trans ((ks_ne (by decide)).trans (ks_eq _ _ _))), (ks_ne (by decide)).trans ((ks_ne (by decide)).trans (ks_eq _ _ _)), (ks_ne (by decide)).trans (ks_eq _ _ _)⟩, p1, p2⟩
        exact Or.inl (cSt_s h (by rw [al0] at hcc; exact hcc) haf (by first | rfl | exact pk_us) hm9)
      · obtain rfl : ln = 40 := by omega
        exact Or.inl (cSt_r h (ct_X10_law_n l G h64 h69 h7 hcl hc p65 p89 p90 p91 p92 (cx_im_1 hi) (f3.trans a80)) (fun R s2 => ct_X11_law_n l G h21 hcl hc hi a80))
    · exact cSs_2 (cSx_q (by decide) (by decide) (Or.inl rfl) (ct_X10_law_b l G hst h64 h69 h7 hcl hc (cx_im_0 hi)) (fun R s2 => ct_X11_law_b l G h21 hcl hc hi))
  · exact cSs_1 (cSx_q (by decide) (by decide) (Or.inl rfl) (ct_X10_law_f l G hst h64 hx) (fun R s2 => ct_X11_law_f l G hy))

theorem cs_feed (l : Launch) (G : kx_G) {P : kx_P} {sz : Nat} {M : Nat → Int32} {A : Nat → Nat → Int32} {L : Nat → Nat → Int64} {cl mi se : Nat} {bl : Nat → Nat} (h : cI P sz (M, A, L) cl mi se bl) (a b c d e : Int32) : cSs l G sX10_feed sX11_feed [.int a, .int b, .int c, .int d, .int e] [.int a, .int b, .int c, .int d, .int e] P sz (M, A, L) se bl [] := by
  obtain ⟨K, h64, h69, h7, hcl, k2, k5, k10, k11, h21⟩ := cI_k h
  obtain ⟨sd, ⟨⟨c0, w0, kx, ky, a12, a13, kx9, ky9, a59, a60⟩, a21, a2, a1, a4, a3, a49, ⟨tp, tp4, a5⟩, awo, a22, a10, aso, ag, ac, ⟨rn, rn1, a71, ard⟩, ⟨ln, ln1, a80, alw⟩⟩, hs9, -⟩ := id h
  obtain ⟨⟨K0, p64, c2, c5, c7, c10, c11⟩, ⟨Al, p65, al0, al1, al3⟩, p66, p67, p68, p69, p70, ⟨Fs, p71, f4⟩, p72, p76, p77, p78, p79, p80, p81, p82, p83, ⟨Fr, p84, r4⟩, ⟨p85, p86, p87, p88⟩, ⟨Fl, p89, f3⟩, ⟨p90, p91, p92⟩, p1, p2⟩ := id hs9
  have al0 : Al 0 = M 1 := al0
  have al1 : Al 1 = M 3 := al1
  have al3 : Al 3 = M 2 := al3
  have f4 : Fs 4 = M 22 := f4
  have r4 : Fr 4 = M 71 := r4
  have f3 : Fl 3 = M 80 := f3
  have a1 : M 1 = nI mi := a1
  have a5 : M 5 = nI tp := a5
  have a71 : M 71 = nI rn := a71
  have a80 : M 80 = nI ln := a80
  have awo : ck_wo M A := awo
  by_cases hf : tp + 20 ≤ 400
  · have hcc := ct_X10_feed_t l G (sz := sz) (a := a) (b := b) (c := c) (d := d) (e := e) h64 p67 (k2.trans a5) hf
    have hm9 := fun (R : kx_P) (s2 : Nat) => ct_X11_feed_t l G (M := M) (A := A) (L := L) (R := R) (sz := s2) (a := a) (b := b) (c := c) (d := d) (e := e) a5 hf
    have haf : cR_af P (kx_set (kx_set P 67 (kI 0 400 (cx_20 (A 95) tp a b c d e))) 64 (kO 10 (kf (cr10 (cR_sv (bl 16))) (upd K 2 (nI (tp + 20)))))) ((upd (upd M 0 0) 5 (nI (tp + 20))), (va_up A 95 (ck_put (A 95) (ck_by8 a b c d e) tp 20)), L) cl mi se sz bl := by
      have q : ∀ n, (¬ n = 64 ∧ ¬ n = 67) → 0 < 1 → (kx_set (kx_set P 67 (kI 0 400 (cx_20 (A 95) tp a b c d e))) 64 (kO 10 (kf (cr10 (cR_sv (bl 16))) (upd K 2 (nI (tp + 20)))))) n = P n := fun n hn _ => by rw [ks_ne (by omega)]; rw [ks_ne (by omega)]
      have m : ∀ j, (¬ j = 0 ∧ ¬ j = 5) → (upd (upd M 0 0) 5 (nI (tp + 20))) j = M j := fun j hj => by unfold upd; rw [if_neg (by omega), if_neg (by omega)]
      have g : ∀ k, (¬ k = 95) → (va_up A 95 (ck_put (A 95) (ck_by8 a b c d e) tp 20)) k = A k := fun k hk => by unfold va_up; rw [if_neg (by omega)]
      refine cI_st h (fun sd9 hm0 => ?_) (fun _ => ?_) (fun n hn => q n (by omega) (by omega)) (fun k hk => g k (by omega))
      · exact hm0.up (fun j hj => m j (by omega)) (fun k hk => g k (by omega)) (a3) (⟨tp + 20, hf, rfl⟩) (⟨kx, ky, kx9, ky9, a59, a60⟩) (awo) (⟨rn, rn1, a71, ard⟩) (⟨ln, ln1, a80, alw⟩)
      · clear hcc hm9
        obtain ⟨p64, p65, p66, p67, p68, p69, p70, p71, p72, p76, p77, p78, p79, p80, p81, p82, p83, p84, p85, p89, p90, p1, p2⟩ := id hs9
        unfold cR_st
        unfold cx_SR at p72 ⊢
        rw [q 65 (by omega) (by omega), q 66 (by omega) (by omega), q 68 (by omega) (by omega), q 69 (by omega) (by omega), q 70 (by omega) (by omega), q 71 (by omega) (by omega), q 72 (by omega) (by omega), q 73 (by omega) (by omega), q 74 (by omega) (by omega), q 75 (by omega) (by omega), q 76 (by omega) (by omega), q 77 (by omega) (by omega), q 78 (by omega) (by omega), q 79 (by omega) (by omega), q 80 (by omega) (by omega), q 81 (by omega) (by omega), q 82 (by omega) (by omega), q 83 (by omega) (by omega), q 84 (by omega) (by omega), q 85 (by omega) (by omega), q 86 (by omega) (by omega), q 87 (by omega) (by omega), q 88 (by omega) (by omega), q 89 (by omega) (by omega), q 90 (by omega) (by omega), q 91 (by omega) (by omega), q 92 (by omega) (by omega), q 1 (by omega) (by omega), q 2 (by omega) (by omega)]
        rw [m 1 (by omega), m 3 (by omega), m 2 (by omega), m 22 (by omega), m 71 (by omega), m 80 (by omega)]
        rw [g 94 (by omega), g 118 (by omega), g 119 (by omega), g 120 (by omega), g 121 (by omega), g 130 (by omega), g 131 (by omega), g 132 (by omega), g 133 (by omega), g 134 (by omega), g 135 (by omega), g 136 (by omega)]
        exact ⟨⟨_, ks_eq _ _ _, rfl, k5, h7.trans h21.symm, k10, k11⟩, p65, p66, (ks_ne (by decide)).trans ((ks_eq _ _ _).trans (congrArg (kI 0 400) cx_20_eq)), p68, p69, p70, p71, p72, p76, p77, p78, p79, p80, p81, p82, p83, p84, p85, p89, p90, p1, p2⟩
    exact Or.inl (cSt_s h hcc haf (by first | rfl | exact pk_us) hm9)
  · exact Or.inl (cSt_r h (ct_X10_feed_n l G h64 p67 (k2.trans a5) tp4 (by omega)) (fun R s2 => ct_X11_feed_n l G a5 tp4 (by omega)))

theorem cq_hz {F : Nat → Int32} {a b x y : Int32} (h : cR_q F (a, b, x, y)) : (¬ a = -1 → ¬ (b - a).toInt64 = 0 ∧ ¬ 60 * (b - a).toInt64 = 0) ∧ (¬ a = -1 → ¬ b = -1) ∧ (¬ b = -1 → ∃ m : Nat, m ≤ 100000 ∧ b = nI m) ∧ (¬ a = -1 → ∃ m n : Nat, n < m ∧ m ≤ 100000 ∧ b = nI m ∧ a = nI n) := by
  rcases h with ⟨h5, h1, h2⟩ | ⟨h5, h1, h8, h9, m2, hm2, e2⟩ | ⟨h5, h6, h7, h8, h9, m2, m1, h12, hm2, e2, e1⟩
  · have h1 : a = -1 := h1
    have h2 : b = -1 := h2
    exact ⟨fun z => absurd h1 z, fun z => absurd h1 z, fun z => absurd h2 z, fun z => absurd h1 z⟩
  · have h1 : a = -1 := h1
    exact ⟨fun z => absurd h1 z, fun z => absurd h1 z, fun _ => ⟨m2, hm2, e2⟩, fun z => absurd h1 z⟩
  · have e2 : b = nI m2 := e2
    have e1 : a = nI m1 := e1
    refine ⟨fun _ => ?_, fun _ => ?_, fun _ => ⟨m2, hm2, e2⟩, fun _ => ⟨m2, m1, h12, hm2, e2, e1⟩⟩
    · rw [e2, e1, (cR_sub h12 hm2).1]
      refine ⟨fun z => ?_, fun z => ?_⟩
      · have := congrArg Int64.toInt z
        rw [pk_lT (by omega), show (0 : Int64).toInt = 0 from rfl] at this
        omega
      · rw [show (60 : Int64) = lN 60 from rfl, lN_mul] at z
        have := congrArg Int64.toInt z
        rw [pk_lT (by omega), show (0 : Int64).toInt = 0 from rfl] at this
        omega
    · rw [e2]
      exact nI_m1 (by omega)

theorem cs_reckoned (l : Launch) (G : kx_G) (hst : l.stackTraces = false) {P : kx_P} {sz : Nat} {M : Nat → Int32} {A : Nat → Nat → Int32} {L : Nat → Nat → Int64} {cl mi se : Nat} {bl : Nat → Nat} (h : cI P sz (M, A, L) cl mi se bl) (x i t : Int32) : cSs l G sX10_reckoned sX11_reckoned [.int x, .int i, .int t] [.int x, .int i, .int t] P sz (M, A, L) se bl cS_NA := by
  obtain ⟨K, h64, h69, h7, hcl, k2, k5, k10, k11, h21⟩ := cI_k h
  obtain ⟨sd, ⟨⟨c0, w0, kx, ky, a12, a13, kx9, ky9, a59, a60⟩, a21, a2, a1, a4, a3, a49, ⟨tp, tp4, a5⟩, awo, a22, a10, aso, ag, ac, ⟨rn, rn1, a71, ard⟩, ⟨ln, ln1, a80, alw⟩⟩, hs9, -⟩ := id h
  obtain ⟨⟨K0, p64, c2, c5, c7, c10, c11⟩, ⟨Al, p65, al0, al1, al3⟩, p66, p67, p68, p69, p70, ⟨Fs, p71, f4⟩, p72, p76, p77, p78, p79, p80, p81, p82, p83, ⟨Fr, p84, r4⟩, ⟨p85, p86, p87, p88⟩, ⟨Fl, p89, f3⟩, ⟨p90, p91, p92⟩, p1, p2⟩ := id hs9
  have al0 : Al 0 = M 1 := al0
  have al1 : Al 1 = M 3 := al1
  have al3 : Al 3 = M 2 := al3
  have f4 : Fs 4 = M 22 := f4
  have r4 : Fr 4 = M 71 := r4
  have f3 : Fl 3 = M 80 := f3
  have a1 : M 1 = nI mi := a1
  have a5 : M 5 = nI tp := a5
  have a71 : M 71 = nI rn := a71
  have a80 : M 80 = nI ln := a80
  have awo : ck_wo M A := awo
  rcases cl_ix hcl h7 h21 x with ⟨c, hc, rfl⟩ | ⟨hx, hy⟩
  · have hrq := cR_q_rc (A := A) (F := Fr) (c := nI c) (t := t) (e1 := M 78) (e2 := M 79) rn (fun j hj => (ard j hj).1)
    have hre := cR_e_ft (A := A) (c := nI c) (t := t) (e1 := M 78) (e2 := M 79) rn (fun j hj => (ard j hj).2)
    have h74 : (cx_rc Fr (A 130) (A 131) (A 132) (A 133) (nI c) t rn) 4 = nI rn := (cx_rc_4 rn).trans (r4.trans a71)
    generalize hqq : ck_ft A (nI c) t (M 78) (M 79) rn = q at hrq hre
    obtain ⟨qa, qb, qx, qy⟩ := q
    obtain ⟨z1, z2, z3, z4⟩ := cq_hz hrq
    have haf : cR_af P (kx_set P 84 (kO 5 (kf cr5 (cx_rc Fr (A 130) (A 131) (A 132) (A 133) (nI c) t rn)))) ((ck_q4 (upd M 0 0) (qa, qb, qx, qy)), A, L) cl mi se sz bl := by
      have q : ∀ n, ¬ n = 84 → 0 < 1 → (kx_set P 84 (kO 5 (kf cr5 (cx_rc Fr (A 130) (A 131) (A 132) (A 133) (nI c) t rn)))) n = P n := fun n hn _ => ks_ne hn
      have m : ∀ j, (¬ j = 0 ∧ ¬ j = 76 ∧ ¬ j = 77 ∧ ¬ j = 78 ∧ ¬ j = 79) → (ck_q4 (upd M 0 0) (qa, qb, qx, qy)) j = M j := fun j hj => by unfold ck_q4 upd; rw [if_neg (by omega), if_neg (by omega), if_neg (by omega), if_neg (by omega), if_neg (by omega)]
      refine cI_st h (fun sd9 hm0 => ?_) (fun _ => ?_) (fun n hn => q n (by omega) (by omega)) (fun _ _ => rfl)
      · exact hm0.up (fun j hj => m j (by omega)) (fun _ _ => rfl) a3 ⟨tp, tp4, a5⟩ ⟨kx, ky, kx9, ky9, a59, a60⟩ awo ⟨rn, rn1, a71, ard⟩ ⟨ln, ln1, a80, alw⟩
      · clear hre hrq z1 z2 z3 z4
        obtain ⟨p64, p65, p66, p67, p68, p69, p70, p71, p72, p76, p77, p78, p79, p80, p81, p82, p83, p84, p85, p89, p90, p1, p2⟩ := id hs9
        unfold cR_st
        unfold cx_SR at p72 ⊢
        rw [q 64 (by omega) (by omega), q 65 (by omega) (by omega), q 66 (by omega) (by omega), q 67 (by omega) (by omega), q 68 (by omega) (by omega), q 69 (by omega) (by omega), q 70 (by omega) (by omega), q 71 (by omega) (by omega), q 72 (by omega) (by omega), q 73 (by omega) (by omega), q 74 (by omega) (by omega), q 75 (by omega) (by omega), q 76 (by omega) (by omega), q 77 (by omega) (by omega), q 78 (by omega) (by omega), q 79 (by omega) (by omega), q 80 (by omega) (by omega), q 81 (by omega) (by omega), q 82 (by omega) (by omega), q 83 (by omega) (by omega), q 85 (by omega) (by omega), q 86 (by omega) (by omega), q 87 (by omega) (by omega), q 88 (by omega) (by omega), q 89 (by omega) (by omega), q 90 (by omega) (by omega), q 91 (by omega) (by omega), q 92 (by omega) (by omega), q 1 (by omega) (by omega), q 2 (by omega) (by omega)]
        rw [m 5 (by omega), m 14 (by omega), m 21 (by omega), m 59 (by omega), m 60 (by omega), m 1 (by omega), m 3 (by omega), m 2 (by omega), m 22 (by omega), m 80 (by omega)]
        exact ⟨p64, p65, p66, p67, p68, p69, p70, p71, p72, p76, p77, p78, p79, p80, p81, p82, p83, ⟨_, ks_eq _ _ _, h74.trans a71.symm⟩, p85, p89, p90, p1, p2⟩
    clear h74
    by_cases hi : 0 ≤ i ∧ i ≤ 100000
    · have hcc := ct_X10_reckoned_t l G (sz := sz) (t := t) h64 h69 h7 hcl hc p84 p85 p86 p87 p88 (r4.trans a71) rn1 (cx_im_1 hi)
      rw [cx_ea_eq hrq] at hcc
      by_cases hb : qb = -1
      · rw [if_pos hb] at hcc
        exact Or.inl (cSt_s h hcc haf rfl (fun R s2 => ct_X11_reckoned_v l G h21 hcl hc hi a71 rn1 hqq hb))
      · rw [if_neg hb] at hcc
        exact Or.inl (cSt_s h hcc haf rfl (fun R s2 => ct_X11_reckoned_t l G h21 hcl hc hi a71 rn1 hqq hb (fun z => (z1 z).1)))
    · exact cSs_2 (cSx_q (by decide) (by decide) (Or.inr rfl) (ct_X10_reckoned_b l G hst h64 h69 h7 hcl hc (cx_im_0 hi)) (fun R s2 => ct_X11_reckoned_b l G h21 hcl hc hi))
  · exact cSs_1 (cSx_q (by decide) (by decide) (Or.inr rfl) (ct_X10_reckoned_f l G hst h64 hx) (fun R s2 => ct_X11_reckoned_f l G hy))

theorem cs_speed (l : Launch) (G : kx_G) (hst : l.stackTraces = false) {P : kx_P} {sz : Nat} {M : Nat → Int32} {A : Nat → Nat → Int32} {L : Nat → Nat → Int64} {cl mi se : Nat} {bl : Nat → Nat} (h : cI P sz (M, A, L) cl mi se bl) (x t : Int32) : cSs l G sX10_speed sX11_speed [.int x, .int t] [.int x, .int t] P sz (M, A, L) se bl cS_N := by
  obtain ⟨K, h64, h69, h7, hcl, k2, k5, k10, k11, h21⟩ := cI_k h
  obtain ⟨sd, ⟨⟨c0, w0, kx, ky, a12, a13, kx9, ky9, a59, a60⟩, a21, a2, a1, a4, a3, a49, ⟨tp, tp4, a5⟩, awo, a22, a10, aso, ag, ac, ⟨rn, rn1, a71, ard⟩, ⟨ln, ln1, a80, alw⟩⟩, hs9, -⟩ := id h
  obtain ⟨⟨K0, p64, c2, c5, c7, c10, c11⟩, ⟨Al, p65, al0, al1, al3⟩, p66, p67, p68, p69, p70, ⟨Fs, p71, f4⟩, p72, p76, p77, p78, p79, p80, p81, p82, p83, ⟨Fr, p84, r4⟩, ⟨p85, p86, p87, p88⟩, ⟨Fl, p89, f3⟩, ⟨p90, p91, p92⟩, p1, p2⟩ := id hs9
  have al0 : Al 0 = M 1 := al0
  have al1 : Al 1 = M 3 := al1
  have al3 : Al 3 = M 2 := al3
  have f4 : Fs 4 = M 22 := f4
  have r4 : Fr 4 = M 71 := r4
  have f3 : Fl 3 = M 80 := f3
  have a1 : M 1 = nI mi := a1
  have a5 : M 5 = nI tp := a5
  have a71 : M 71 = nI rn := a71
  have a80 : M 80 = nI ln := a80
  have awo : ck_wo M A := awo
  rcases cl_ix hcl h7 h21 x with ⟨c, hc, rfl⟩ | ⟨hx, hy⟩
  · have hrq := cR_q_rc (A := A) (F := Fr) (c := nI c) (t := t) (e1 := M 78) (e2 := M 79) rn (fun j hj => (ard j hj).1)
    have hre := cR_e_ft (A := A) (c := nI c) (t := t) (e1 := M 78) (e2 := M 79) rn (fun j hj => (ard j hj).2)
    have h74 : (cx_rc Fr (A 130) (A 131) (A 132) (A 133) (nI c) t rn) 4 = nI rn := (cx_rc_4 rn).trans (r4.trans a71)
    generalize hqq : ck_ft A (nI c) t (M 78) (M 79) rn = q at hrq hre
    obtain ⟨qa, qb, qx, qy⟩ := q
    obtain ⟨z1, z2, z3, z4⟩ := cq_hz hrq
    have haf : cR_af P (kx_set P 84 (kO 5 (kf cr5 (cx_rc Fr (A 130) (A 131) (A 132) (A 133) (nI c) t rn)))) ((ck_q4 (upd M 0 0) (qa, qb, qx, qy)), A, L) cl mi se sz bl := by
      have q : ∀ n, ¬ n = 84 → 0 < 1 → (kx_set P 84 (kO 5 (kf cr5 (cx_rc Fr (A 130) (A 131) (A 132) (A 133) (nI c) t rn)))) n = P n := fun n hn _ => ks_ne hn
      have m : ∀ j, (¬ j = 0 ∧ ¬ j = 76 ∧ ¬ j = 77 ∧ ¬ j = 78 ∧ ¬ j = 79) → (ck_q4 (upd M 0 0) (qa, qb, qx, qy)) j = M j := fun j hj => by unfold ck_q4 upd; rw [if_neg (by omega), if_neg (by omega), if_neg (by omega), if_neg (by omega), if_neg (by omega)]
      refine cI_st h (fun sd9 hm0 => ?_) (fun _ => ?_) (fun n hn => q n (by omega) (by omega)) (fun _ _ => rfl)
      · exact hm0.up (fun j hj => m j (by omega)) (fun _ _ => rfl) a3 ⟨tp, tp4, a5⟩ ⟨kx, ky, kx9, ky9, a59, a60⟩ awo ⟨rn, rn1, a71, ard⟩ ⟨ln, ln1, a80, alw⟩
      · clear hre hrq z1 z2 z3 z4
        obtain ⟨p64, p65, p66, p67, p68, p69, p70, p71, p72, p76, p77, p78, p79, p80, p81, p82, p83, p84, p85, p89, p90, p1, p2⟩ := id hs9
        unfold cR_st
        unfold cx_SR at p72 ⊢
        rw [q 64 (by omega) (by omega), q 65 (by omega) (by omega), q 66 (by omega) (by omega), q 67 (by omega) (by omega), q 68 (by omega) (by omega), q 69 (by omega) (by omega), q 70 (by omega) (by omega), q 71 (by omega) (by omega), q 72 (by omega) (by omega), q 73 (by omega) (by omega), q 74 (by omega) (by omega), q 75 (by omega) (by omega), q 76 (by omega) (by omega), q 77 (by omega) (by omega), q 78 (by omega) (by omega), q 79 (by omega) (by omega), q 80 (by omega) (by omega), q 81 (by omega) (by omega), q 82 (by omega) (by omega), q 83 (by omega) (by omega), q 85 (by omega) (by omega), q 86 (by omega) (by omega), q 87 (by omega) (by omega), q 88 (by omega) (by omega), q 89 (by omega) (by omega), q 90 (by omega) (by omega), q 91 (by omega) (by omega), q 92 (by omega) (by omega), q 1 (by omega) (by omega), q 2 (by omega) (by omega)]
        rw [m 5 (by omega), m 14 (by omega), m 21 (by omega), m 59 (by omega), m 60 (by omega), m 1 (by omega), m 3 (by omega), m 2 (by omega), m 22 (by omega), m 80 (by omega)]
        exact ⟨p64, p65, p66, p67, p68, p69, p70, p71, p72, p76, p77, p78, p79, p80, p81, p82, p83, ⟨_, ks_eq _ _ _, h74.trans a71.symm⟩, p85, p89, p90, p1, p2⟩
    clear h74
    have hcc := ct_X10_speed_t l G (sz := sz) (t := t) h64 h69 h7 hcl hc p84 p85 p86 p87 p88 (r4.trans a71) rn1
    rw [cx_rr_eq hrq] at hcc
    by_cases hb : qa = -1
    · rw [if_pos hb] at hcc
      exact Or.inl (cSt_s h hcc haf rfl (fun R s2 => ct_X11_speed_v l G h21 hcl hc a71 rn1 hqq hb))
    · rw [if_neg hb] at hcc
      exact Or.inl (cSt_s h hcc haf rfl (fun R s2 => ct_X11_speed_t l G h21 hcl hc a71 rn1 hqq hb (z1 hb).2))
  · exact cSs_1 (cSx_q (by decide) (by decide) (Or.inr rfl) (ct_X10_speed_f l G hst h64 hx) (fun R s2 => ct_X11_speed_f l G hy))

theorem cs_regulated (l : Launch) (G : kx_G) (hst : l.stackTraces = false) {P : kx_P} {sz : Nat} {M : Nat → Int32} {A : Nat → Nat → Int32} {L : Nat → Nat → Int64} {cl mi se : Nat} {bl : Nat → Nat} (h : cI P sz (M, A, L) cl mi se bl) (x t : Int32) : cSs l G sX10_regulated sX11_regulated [.int x, .int t] [.int x, .int t] P sz (M, A, L) se bl cS_N := by
  obtain ⟨K, h64, h69, h7, hcl, k2, k5, k10, k11, h21⟩ := cI_k h
  obtain ⟨sd, ⟨⟨c0, w0, kx, ky, a12, a13, kx9, ky9, a59, a60⟩, a21, a2, a1, a4, a3, a49, ⟨tp, tp4, a5⟩, awo, a22, a10, aso, ag, ac, ⟨rn, rn1, a71, ard⟩, ⟨ln, ln1, a80, alw⟩⟩, hs9, -⟩ := id h
  obtain ⟨⟨K0, p64, c2, c5, c7, c10, c11⟩, ⟨Al, p65, al0, al1, al3⟩, p66, p67, p68, p69, p70, ⟨Fs, p71, f4⟩, p72, p76, p77, p78, p79, p80, p81, p82, p83, ⟨Fr, p84, r4⟩, ⟨p85, p86, p87, p88⟩, ⟨Fl, p89, f3⟩, ⟨p90, p91, p92⟩, p1, p2⟩ := id hs9
  have al0 : Al 0 = M 1 := al0
  have al1 : Al 1 = M 3 := al1
  have al3 : Al 3 = M 2 := al3
  have f4 : Fs 4 = M 22 := f4
  have r4 : Fr 4 = M 71 := r4
  have f3 : Fl 3 = M 80 := f3
  have a1 : M 1 = nI mi := a1
  have a5 : M 5 = nI tp := a5
  have a71 : M 71 = nI rn := a71
  have a80 : M 80 = nI ln := a80
  have awo : ck_wo M A := awo
  rcases cl_ix hcl h7 h21 x with ⟨c, hc, rfl⟩ | ⟨hx, hy⟩
  · have hrq := cR_q_rc (A := A) (F := Fr) (c := nI c) (t := t) (e1 := M 78) (e2 := M 79) rn (fun j hj => (ard j hj).1)
    have hre := cR_e_ft (A := A) (c := nI c) (t := t) (e1 := M 78) (e2 := M 79) rn (fun j hj => (ard j hj).2)
    have h74 : (cx_rc Fr (A 130) (A 131) (A 132) (A 133) (nI c) t rn) 4 = nI rn := (cx_rc_4 rn).trans (r4.trans a71)
    generalize hqq : ck_ft A (nI c) t (M 78) (M 79) rn = q at hrq hre
    obtain ⟨qa, qb, qx, qy⟩ := q
    obtain ⟨z1, z2, z3, z4⟩ := cq_hz hrq
    have haf : cR_af P (kx_set P 84 (kO 5 (kf cr5 (cx_rc Fr (A 130) (A 131) (A 132) (A 133) (nI c) t rn)))) ((ck_q4 (upd M 0 0) (qa, qb, qx, qy)), A, L) cl mi se sz bl := by
      have q : ∀ n, ¬ n = 84 → 0 < 1 → (kx_set P 84 (kO 5 (kf cr5 (cx_rc Fr (A 130) (A 131) (A 132) (A 133) (nI c) t rn)))) n = P n := fun n hn _ => ks_ne hn
      have m : ∀ j, (¬ j = 0 ∧ ¬ j = 76 ∧ ¬ j = 77 ∧ ¬ j = 78 ∧ ¬ j = 79) → (ck_q4 (upd M 0 0) (qa, qb, qx, qy)) j = M j := fun j hj => by unfold ck_q4 upd; rw [if_neg (by omega), if_neg (by omega), if_neg (by omega), if_neg (by omega), if_neg (by omega)]
      refine cI_st h (fun sd9 hm0 => ?_) (fun _ => ?_) (fun n hn => q n (by omega) (by omega)) (fun _ _ => rfl)
      · exact hm0.up (fun j hj => m j (by omega)) (fun _ _ => rfl) a3 ⟨tp, tp4, a5⟩ ⟨kx, ky, kx9, ky9, a59, a60⟩ awo ⟨rn, rn1, a71, ard⟩ ⟨ln, ln1, a80, alw⟩
      · clear hre hrq z1 z2 z3 z4
        obtain ⟨p64, p65, p66, p67, p68, p69, p70, p71, p72, p76, p77, p78, p79, p80, p81, p82, p83, p84, p85, p89, p90, p1, p2⟩ := id hs9
        unfold cR_st
        unfold cx_SR at p72 ⊢
        rw [q 64 (by omega) (by omega), q 65 (by omega) (by omega), q 66 (by omega) (by omega), q 67 (by omega) (by omega), q 68 (by omega) (by omega), q 69 (by omega) (by omega), q 70 (by omega) (by omega), q 71 (by omega) (by omega), q 72 (by omega) (by omega), q 73 (by omega) (by omega), q 74 (by omega) (by omega), q 75 (by omega) (by omega), q 76 (by omega) (by omega), q 77 (by omega) (by omega), q 78 (by omega) (by omega), q 79 (by omega) (by omega), q 80 (by omega) (by omega), q 81 (by omega) (by omega), q 82 (by omega) (by omega), q 83 (by omega) (by omega), q 85 (by omega) (by omega), q 86 (by omega) (by omega), q 87 (by omega) (by omega), q 88 (by omega) (by omega), q 89 (by omega) (by omega), q 90 (by omega) (by omega), q 91 (by omega) (by omega), q 92 (by omega) (by omega), q 1 (by omega) (by omega), q 2 (by omega) (by omega)]
        rw [m 5 (by omega), m 14 (by omega), m 21 (by omega), m 59 (by omega), m 60 (by omega), m 1 (by omega), m 3 (by omega), m 2 (by omega), m 22 (by omega), m 80 (by omega)]
        exact ⟨p64, p65, p66, p67, p68, p69, p70, p71, p72, p76, p77, p78, p79, p80, p81, p82, p83, ⟨_, ks_eq _ _ _, h74.trans a71.symm⟩, p85, p89, p90, p1, p2⟩
    clear h74
    obtain ⟨K', Al', V, T, Q, Fo, St, S1, C, Kp, -, -, -, -, H, hs, hq, -, -, -, -, -, -, -, -, hv, hC, -, hg⟩ := cI_c h hc
    have hcc := ct_X10_regulated_t l G (sz := sz) (t := t) h64 h69 h7 hcl hc p84 p85 p86 p87 p88 (r4.trans a71) rn1 hq H.2.2.2.2.2.1 (by obtain ⟨sd8, hm8, -, ⟨hB8, -⟩, -⟩ := id h; have b1 := hB8.w hcl hc; have b2 := hB8.c hcl hc; omega)
    rw [cx_rr_eq hrq] at hcc
    by_cases hb : qa = -1
    · rw [if_pos hb, if_pos ((cR_q_5 hrq).1.mpr hb)] at hcc
      exact Or.inl (cSt_s h hcc haf rfl (fun R s2 => ct_X11_regulated_v l G h21 hcl hc a71 rn1 hqq hb))
    · rw [if_neg hb, if_neg (fun z => hb ((cR_q_5 hrq).1.mp z))] at hcc
      obtain ⟨m2, m1, m12, mm, e2, e1⟩ := z4 hb
      have hsp := ck_sp_i hre mm m12 e2 e1
      obtain ⟨-, -, -, -, g15, g115, -⟩ := hg.1.2.1
      rw [hv.1.2.2.2.2.2.1, hC.2.2.2.2.2.2.2.1, (cx_bp_eq hsp g15 g115 41 (by decide) (by decide)).1] at hcc
      exact Or.inl (cSt_s h hcc haf rfl (fun R s2 => ct_X11_regulated_t l G h21 hcl hc a71 rn1 hqq hb (z1 hb).2))
  · exact cSs_1 (cSx_q (by decide) (by decide) (Or.inl rfl) (ct_X10_regulated_f l G hst h64 hx) (fun R s2 => ct_X11_regulated_f l G hy))

theorem cs_beyond (l : Launch) (G : kx_G) (hst : l.stackTraces = false) {P : kx_P} {sz : Nat} {M : Nat → Int32} {A : Nat → Nat → Int32} {L : Nat → Nat → Int64} {cl mi se : Nat} {bl : Nat → Nat} (h : cI P sz (M, A, L) cl mi se bl) (x v t : Int32) : cSs l G sX10_beyond sX11_beyond [.int x, .int v, .int t] [.int x, .int v, .int t] P sz (M, A, L) se bl cS_NA := by
  obtain ⟨K, h64, h69, h7, hcl, k2, k5, k10, k11, h21⟩ := cI_k h
  obtain ⟨sd, ⟨⟨c0, w0, kx, ky, a12, a13, kx9, ky9, a59, a60⟩, a21, a2, a1, a4, a3, a49, ⟨tp, tp4, a5⟩, awo, a22, a10, aso, ag, ac, ⟨rn, rn1, a71, ard⟩, ⟨ln, ln1, a80, alw⟩⟩, hs9, -⟩ := id h
  obtain ⟨⟨K0, p64, c2, c5, c7, c10, c11⟩, ⟨Al, p65, al0, al1, al3⟩, p66, p67, p68, p69, p70, ⟨Fs, p71, f4⟩, p72, p76, p77, p78, p79, p80, p81, p82, p83, ⟨Fr, p84, r4⟩, ⟨p85, p86, p87, p88⟩, ⟨Fl, p89, f3⟩, ⟨p90, p91, p92⟩, p1, p2⟩ := id hs9
  have al0 : Al 0 = M 1 := al0
  have al1 : Al 1 = M 3 := al1
  have al3 : Al 3 = M 2 := al3
  have f4 : Fs 4 = M 22 := f4
  have r4 : Fr 4 = M 71 := r4
  have f3 : Fl 3 = M 80 := f3
  have a1 : M 1 = nI mi := a1
  have a5 : M 5 = nI tp := a5
  have a71 : M 71 = nI rn := a71
  have a80 : M 80 = nI ln := a80
  have awo : ck_wo M A := awo
  rcases cl_ix hcl h7 h21 x with ⟨c, hc, rfl⟩ | ⟨hx, hy⟩
  · have hrq := cR_q_rc (A := A) (F := Fr) (c := nI c) (t := t) (e1 := M 78) (e2 := M 79) rn (fun j hj => (ard j hj).1)
    have hre := cR_e_ft (A := A) (c := nI c) (t := t) (e1 := M 78) (e2 := M 79) rn (fun j hj => (ard j hj).2)
    have h74 : (cx_rc Fr (A 130) (A 131) (A 132) (A 133) (nI c) t rn) 4 = nI rn := (cx_rc_4 rn).trans (r4.trans a71)
    generalize hqq : ck_ft A (nI c) t (M 78) (M 79) rn = q at hrq hre
    obtain ⟨qa, qb, qx, qy⟩ := q
    obtain ⟨z1, z2, z3, z4⟩ := cq_hz hrq
    have haf : cR_af P (kx_set P 84 (kO 5 (kf cr5 (cx_rc Fr (A 130) (A 131) (A 132) (A 133) (nI c) t rn)))) ((ck_q4 (upd M 0 0) (qa, qb, qx, qy)), A, L) cl mi se sz bl := by
      have q : ∀ n, ¬ n = 84 → 0 < 1 → (kx_set P 84 (kO 5 (kf cr5 (cx_rc Fr (A 130) (A 131) (A 132) (A 133) (nI c) t rn)))) n = P n := fun n hn _ => ks_ne hn
      have m : ∀ j, (¬ j = 0 ∧ ¬ j = 76 ∧ ¬ j = 77 ∧ ¬ j = 78 ∧ ¬ j = 79) → (ck_q4 (upd M 0 0) (qa, qb, qx, qy)) j = M j := fun j hj => by unfold ck_q4 upd; rw [if_neg (by omega), if_neg (by omega), if_neg (by omega), if_neg (by omega), if_neg (by omega)]
      refine cI_st h (fun sd9 hm0 => ?_) (fun _ => ?_) (fun n hn => q n (by omega) (by omega)) (fun _ _ => rfl)
      · exact hm0.up (fun j hj => m j (by omega)) (fun _ _ => rfl) a3 ⟨tp, tp4, a5⟩ ⟨kx, ky, kx9, ky9, a59, a60⟩ awo ⟨rn, rn1, a71, ard⟩ ⟨ln, ln1, a80, alw⟩
      · clear hre hrq z1 z2 z3 z4
        obtain ⟨p64, p65, p66, p67, p68, p69, p70, p71, p72, p76, p77, p78, p79, p80, p81, p82, p83, p84, p85, p89, p90, p1, p2⟩ := id hs9
        unfold cR_st
        unfold cx_SR at p72 ⊢
        rw [q 64 (by omega) (by omega), q 65 (by omega) (by omega), q 66 (by omega) (by omega), q 67 (by omega) (by omega), q 68 (by omega) (by omega), q 69 (by omega) (by omega), q 70 (by omega) (by omega), q 71 (by omega) (by omega), q 72 (by omega) (by omega), q 73 (by omega) (by omega), q 74 (by omega) (by omega), q 75 (by omega) (by omega), q 76 (by omega) (by omega), q 77 (by omega) (by omega), q 78 (by omega) (by omega), q 79 (by omega) (by omega), q 80 (by omega) (by omega), q 81 (by omega) (by omega), q 82 (by omega) (by omega), q 83 (by omega) (by omega), q 85 (by omega) (by omega), q 86 (by omega) (by omega), q 87 (by omega) (by omega), q 88 (by omega) (by omega), q 89 (by omega) (by omega), q 90 (by omega) (by omega), q 91 (by omega) (by omega), q 92 (by omega) (by omega), q 1 (by omega) (by omega), q 2 (by omega) (by omega)]
        rw [m 5 (by omega), m 14 (by omega), m 21 (by omega), m 59 (by omega), m 60 (by omega), m 1 (by omega), m 3 (by omega), m 2 (by omega), m 22 (by omega), m 80 (by omega)]
        exact ⟨p64, p65, p66, p67, p68, p69, p70, p71, p72, p76, p77, p78, p79, p80, p81, p82, p83, ⟨_, ks_eq _ _ _, h74.trans a71.symm⟩, p85, p89, p90, p1, p2⟩
    clear h74
    by_cases hv : 0 ≤ v ∧ v ≤ 100000000
    · have hcc := ct_X10_beyond_t l G (sz := sz) (t := t) h64 h69 h7 hcl hc p84 p85 p86 p87 p88 (r4.trans a71) rn1 hv.1 hv.2
      rcases cx_fb_eq hrq hre (ir_of hv.1 hv.2) with ⟨b1, b2⟩ | ⟨b, b1, b2, ⟨b3, b4⟩ | ⟨m, m1, m2, b3, b4, b5⟩⟩
      · rw [b2] at hcc
        exact Or.inl (cSt_s h hcc haf rfl (fun R s2 => ct_X11_beyond_v l G h21 hcl hc hv a71 rn1 hqq b1))
      · obtain rfl : qb = nI b := b2
        rw [b3] at hcc
        exact Or.inl (cSt_s h hcc haf rfl (fun R s2 => ct_X11_beyond_n l G h21 hcl hc hv a71 rn1 hqq (fun z => (z1 z).1) (by omega) b4))
      · obtain rfl : qb = nI b := b2
        rw [b3] at hcc
        exact Or.inl (cSt_s h hcc haf rfl (fun R s2 => ct_X11_beyond_t l G h21 hcl hc hv a71 rn1 hqq (fun z => (z1 z).1) ⟨m1, m2⟩ b4 b5))
    · exact cSs_2 (cSx_q (by decide) (by decide) (Or.inl rfl) (ct_X10_beyond_b l G hst h64 h69 h7 hcl hc hv) (fun R s2 => ct_X11_beyond_b l G h21 hcl hc hv))
  · exact cSs_1 (cSx_q (by decide) (by decide) (Or.inl rfl) (ct_X10_beyond_f l G hst h64 hx) (fun R s2 => ct_X11_beyond_f l G hy))

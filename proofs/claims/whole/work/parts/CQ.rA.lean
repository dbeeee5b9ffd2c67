/-! EACH CALL, both ways: heard, witness, round, plan -/
theorem cI_CS {P : kx_P} {sz : Nat} {M : Nat → Int32} {A : Nat → Nat → Int32} {L : Nat → Nat → Int64} {cl mi se : Nat} {bl : Nat → Nat} (h : cI P sz (M, A, L) cl mi se bl) : ∃ CC VV : Nat → Nat → Int32, cx_CS P cl (fun i => bl (8 + i)) bl (fun i => L 116 i) (fun i => .ref (bl (8 + i) + 1)) CC VV ∧ (∀ i, i < cl → cR_C A i (CC i) ∧ VV i 0 = A 102 (16 * i + 0) ∧ VV i 7 = A 102 (16 * i + 14)) ∧ cR_p A CC VV cl ∧ ∀ i, i < cl → cR_g A L i := by
  have key : ∀ i, ∃ CV : (Nat → Int32) × (Nat → Int32), i < cl → (P (bl (8 + i)) = kO 1 (kf (cr1 (.ref (bl i)) (L 116 i) (.ref (bl (8 + i) + 1))) CV.1) ∧ P (bl i) = kO 9 (kf (cr9 (bl i)) CV.2) ∧ 144 ≤ bl (8 + i) ∧ 144 ≤ bl i) ∧ (cR_C A i CV.1 ∧ CV.2 0 = A 102 (16 * i + 0) ∧ CV.2 7 = A 102 (16 * i + 14)) ∧ cR_g A L i := by
    intro i
    by_cases hi : i < cl
    · obtain ⟨K', Al, V, T, Q, Fo, St, S1, C, Kp, -, -, -, hcl, H, hs, hq, hkq, hA, al0, al1, al3, hmi, h1, -, hv, hC, hkp, hg⟩ := cI_c h hi
      obtain ⟨sd8, hm8, -, ⟨hB8, -⟩, -⟩ := id h
      exact ⟨(C, V), fun _ => ⟨⟨hq, H.2.2.2.2.2.1, (hB8.c hcl hi).2.1, (hB8.w hcl hi).2.1⟩, ⟨hC, hv.1.1, hv.1.2.2.2.2.2.2.2.1⟩, hg⟩⟩
    · exact ⟨(fun _ => 0, fun _ => 0), fun z => absurd z hi⟩
  obtain ⟨f, hf⟩ := Classical.axiomOfChoice key
  obtain ⟨K, h64, h69, -⟩ := cI_k h
  refine ⟨fun i => (f i).1, fun i => (f i).2, ⟨h69, fun i hi => (hf i hi).1⟩, fun i hi => (hf i hi).2.1, fun i hi => ?_, fun i hi => (hf i hi).2.2⟩
  obtain ⟨-, ⟨hC, -, h7⟩, hg⟩ := hf i hi
  obtain ⟨-, -, -, -, -, -, -, -, -, i100, -⟩ := hg.2
  exact ⟨hC.1, hC.2.1, h7, i100⟩
theorem cR_so.SO {A CC VV : Nat → Nat → Int32} {sd cl : Nat} (h : cR_so A sd cl) (hp : cR_p A CC VV cl) : cx_SO (A 118) (A 119) (A 120) (A 121) CC sd cl := by
  refine ⟨fun i h1 h2 => ?_, fun i hi => ?_⟩
  · obtain ⟨ci, nn, a, a1, a2, a3, a4, a5, a6⟩ := h i h1 h2
    exact ⟨ci, nn, a, a1, a2, a3, by omega, a5, a6⟩
  · obtain ⟨e0, e1, -, u, v, hu, hv, eu, ev⟩ := hp i hi
    exact ⟨u, v, hu, hv, e0.trans eu, e1.trans ev⟩
theorem cR_so.so {A : Nat → Nat → Int32} {sd cl : Nat} (h : cR_so A sd cl) (hcl : cl ≤ 8) : ck_so A sd := by
  intro i h1 h2
  obtain ⟨ci, nn, a, a1, a2, a3, a4, a5, a6⟩ := h i h1 h2
  exact ⟨ci, nn, by omega, a2, by omega, a3⟩
/-- the class's world changes in scratch alone -/
theorem cSt_v {l : Launch} {G : kx_G} {yc ym : kx_S} {Ac Am : List Value} {P : kx_P} {sz : Nat} {M : Nat → Int32} {A : Nat → Nat → Int32} {L : Nat → Nat → Int64} {cl mi se : Nat} {bl : Nat → Nat} {v : Value} {dc dm : Nat} (hc : kx_Mn l G yc dc 0 0 (.ref 64 :: Ac) P sz (fun r P2 s2 => r = some v ∧ s2 = sz ∧ cR_af P P2 (M, A, L) cl mi se sz bl))
    (hm : ∀ (R : kx_P) (s2 : Nat), kx_Mn l G ym dm 0 0 (.ref 93 :: Am) (mW M A L R) s2 (fun r P3 s3 => r = some v ∧ s3 = s2 ∧ ∃ S2 : ck_S, P3 = ck_W S2 R ∧ S2.1 0 = 0 ∧ cq (M, A, L) S2)) (hdc : dc ≤ 50 := by decide) (hdm : dm ≤ 50 := by decide) (hT : cvT ym v := by first | exact cvT_i (by decide) | exact cvT_i (fun h => by cases h) | exact cvT_l rfl) : cSt l G yc ym Ac Am P sz (M, A, L) se bl :=
  ⟨v, (M, A, L), dc, dm, 0, 0, cl, mi, se, bl, hT, hdc, hdm, by omega, by omega, by omega, hc.imp (fun r P2 s2 ⟨a, b, c⟩ => ⟨a, by omega, by rw [b]; exact c⟩), hm⟩
theorem cI_hs {P : kx_P} {sz : Nat} {M : Nat → Int32} {A : Nat → Nat → Int32} {L : Nat → Nat → Int64} {cl mi se : Nat} {bl : Nat → Nat} (h : cI P sz (M, A, L) cl mi se bl) {F X2 Y2 : Nat → Int32} (hF : F 4 = M 22) : cR_af P (sW P F X2 Y2) (M, A, L) cl mi se sz bl := by
  have q : ∀ n, (¬ n = 71 ∧ ¬ n = 76 ∧ ¬ n = 77) → 0 < 1 → sW P F X2 Y2 n = P n := fun n hn _ => sW_o hn.1 hn.2.1 hn.2.2
  refine cI_st h (fun _ hm0 => hm0) (fun hs9 => ?_) (fun n hn => q n (by omega) (by omega)) (fun _ _ => rfl)
  obtain ⟨p64, p65, p66, p67, p68, p69, p70, p71, p72, p76, p77, p78, p79, p80, p81, p82, p83, p84, p85, p89, p90, p1, p2⟩ := id hs9
  unfold cR_st
  unfold cx_SR at p72 ⊢
  rw [q 64 (by omega) (by omega), q 65 (by omega) (by omega), q 66 (by omega) (by omega), q 67 (by omega) (by omega), q 68 (by omega) (by omega), q 69 (by omega) (by omega), q 70 (by omega) (by omega), q 72 (by omega) (by omega), q 73 (by omega) (by omega), q 74 (by omega) (by omega), q 75 (by omega) (by omega), q 78 (by omega) (by omega), q 79 (by omega) (by omega), q 80 (by omega) (by omega), q 81 (by omega) (by omega), q 82 (by omega) (by omega), q 83 (by omega) (by omega), q 84 (by omega) (by omega), q 85 (by omega) (by omega), q 86 (by omega) (by omega), q 87 (by omega) (by omega), q 88 (by omega) (by omega), q 89 (by omega) (by omega), q 90 (by omega) (by omega), q 91 (by omega) (by omega), q 92 (by omega) (by omega), q 1 (by omega) (by omega), q 2 (by omega) (by omega)]
  exact ⟨p64, p65, p66, p67, p68, p69, p70, ⟨_, sW_71, hF⟩, p72, ⟨_, sW_76⟩, ⟨_, sW_77⟩, p78, p79, p80, p81, p82, p83, p84, p85, p89, p90, p1, p2⟩
theorem cI_hr {P : kx_P} {sz : Nat} {M : Nat → Int32} {A : Nat → Nat → Int32} {L : Nat → Nat → Int64} {cl mi se : Nat} {bl : Nat → Nat} (h : cI P sz (M, A, L) cl mi se bl) (T : (Nat → Int32) × (Nat → Int32) × (Nat → Int32)) : cR_af P (rW P T) (M, A, L) cl mi se sz bl := by
  have q : ∀ n, (¬ n = 78 ∧ ¬ n = 79 ∧ ¬ n = 80) → 0 < 1 → rW P T n = P n := fun n hn _ => rW_o hn.1 hn.2.1 hn.2.2
  refine cI_st h (fun _ hm0 => hm0) (fun hs9 => ?_) (fun n hn => q n (by omega) (by omega)) (fun _ _ => rfl)
  obtain ⟨p64, p65, p66, p67, p68, p69, p70, p71, p72, p76, p77, p78, p79, p80, p81, p82, p83, p84, p85, p89, p90, p1, p2⟩ := id hs9
  unfold cR_st
  unfold cx_SR at p72 ⊢
  rw [q 64 (by omega) (by omega), q 65 (by omega) (by omega), q 66 (by omega) (by omega), q 67 (by omega) (by omega), q 68 (by omega) (by omega), q 69 (by omega) (by omega), q 70 (by omega) (by omega), q 71 (by omega) (by omega), q 72 (by omega) (by omega), q 73 (by omega) (by omega), q 74 (by omega) (by omega), q 75 (by omega) (by omega), q 76 (by omega) (by omega), q 77 (by omega) (by omega), q 81 (by omega) (by omega), q 82 (by omega) (by omega), q 83 (by omega) (by omega), q 84 (by omega) (by omega), q 85 (by omega) (by omega), q 86 (by omega) (by omega), q 87 (by omega) (by omega), q 88 (by omega) (by omega), q 89 (by omega) (by omega), q 90 (by omega) (by omega), q 91 (by omega) (by omega), q 92 (by omega) (by omega), q 1 (by omega) (by omega), q 2 (by omega) (by omega)]
  exact ⟨p64, p65, p66, p67, p68, p69, p70, p71, p72, p76, p77, ⟨_, _, rW_78⟩, ⟨_, rW_79⟩, ⟨_, rW_80⟩, p81, p82, p83, p84, p85, p89, p90, p1, p2⟩
theorem cq_h {M : Nat → Int32} {A : Nat → Nat → Int32} {L : Nat → Nat → Int64} {v : Int32} {F F2 : Nat → Int32} : cq (M, A, L) (upd (upd M 0 0) 58 v, va_up (va_up A 124 F) 125 F2, L) :=
  ⟨fun j hj => by show upd (upd M 0 0) 58 v j = M j; rw [pk_un (by omega), pk_un (by omega)], fun k hk => by show va_up (va_up A 124 F) 125 F2 k = A k; rw [va_upn (by omega), va_upn (by omega)], rfl⟩
theorem cx_ip_t {x y : Int32} (h : cx_ip x y = 1) : (0 ≤ x ∧ x ≤ 99) ∧ (0 ≤ y ∧ y ≤ 99) := by
  by_cases z : (0 ≤ x ∧ x ≤ 99) ∧ (0 ≤ y ∧ y ≤ 99)
  · exact z
  · rw [cx_ip_0 z] at h; exact absurd h (by decide)
theorem cx_im_t {x : Int32} (h : cx_im x = 1) : 0 ≤ x ∧ x ≤ 100000 := by
  by_cases z : 0 ≤ x ∧ x ≤ 100000
  · exact z
  · rw [cx_im_0 z] at h; exact absurd h (by decide)

theorem cs_heard (l : Launch) (G : kx_G) (hst : l.stackTraces = false) {P : kx_P} {sz : Nat} {M : Nat → Int32} {A : Nat → Nat → Int32} {L : Nat → Nat → Int64} {cl mi se : Nat} {bl : Nat → Nat} (h : cI P sz (M, A, L) cl mi se bl) (x y z w : Int32) : cSs l G sX10_heard sX11_heard [.int x, .int y, .int z, .int w] [.int x, .int y, .int z, .int w] P sz (M, A, L) se bl cS_A := by
  obtain ⟨K, h64, h69, h7, hcl, k2, k5, k10, k11, h21⟩ := cI_k h
  obtain ⟨sd, hm, ⟨-, -, -, -, -, -, -, ⟨Fs, p71, f4⟩, hSR, ⟨X, p76⟩, ⟨Y, p77⟩, ⟨cv, Fr, p78⟩, ⟨O, p79⟩, ⟨B, p80⟩, ⟨Fp, p81, f7⟩, ⟨NU, p82⟩, ⟨WS, p83⟩, -, -, -, -, p1, p2⟩, -⟩ := id h
  obtain ⟨hcl8, h22, hsd, hso, hmi⟩ : cl ≤ 8 ∧ M 22 = nI sd ∧ sd < 2 ^ 29 ∧ cR_so A sd cl ∧ mi ≤ 100000 := ⟨hm.2.2.1, hm.2.2.2.2.2.2.2.2.2.1, by have a := hm.2.2.2.2.2.2.2.2.2.2.1; have b := hm.2.2.2.2.1; omega, hm.2.2.2.2.2.2.2.2.2.2.2.1, hm.2.2.2.2.1⟩
  have f4 : Fs 4 = M 22 := f4
  obtain ⟨CC, VV, hCS, hCV, hp, hg⟩ := cI_CS h
  have bad : ¬ (cx_ip x y = 1 ∧ cx_im z = 1 ∧ 0 ≤ w ∧ w ≤ 2) → kx_X l G sX10_heard 7 (.ref 64 :: [.int x, .int y, .int z, .int w]) P sz "java/lang/IllegalArgumentException" := fun hb => ct_X10_heard_b l G hst hb (cx_ip_b x y) (cx_im_b z)
  by_cases h1 : 0 ≤ x ∧ x ≤ 99
  · by_cases h2 : 0 ≤ y ∧ y ≤ 99
    · by_cases h3 : 0 ≤ z ∧ z ≤ 100000
      · by_cases h4 : 0 ≤ w ∧ w ≤ 2
        · obtain ⟨u, u1, rfl⟩ := nI_of3 (n := 99) (by decide) h1.1 h1.2
          obtain ⟨v, v1, rfl⟩ := nI_of3 (n := 99) (by decide) h2.1 h2.2
          obtain ⟨m, m1, rfl⟩ := nI_of3 (n := 100000) (by decide) h3.1 h3.2
          obtain ⟨k, k1, rfl⟩ := nI_of3 (n := 2) (by decide) h4.1 h4.2
          have eli := cx_li_eq (CC := CC) (VV := VV) (mi := nI m) hp hso hcl8 u1 v1
          match k, k1 with
          | 0, _ =>
            have hcc := ct_X10_heard_0 l G (sz := sz) h64 p71 p76 p77 hSR (f4.trans h22) hsd hcl8 hCS (hso.SO hp) u1 v1 (cx_ip_1 h1 h2) m1 (cx_im_1 h3)
            rw [eli] at hcc
            exact Or.inl (cSt_v (hcc.n.imp (fun r P2 s2 ⟨a, b, c⟩ => ⟨a, c, by rw [b]; exact cI_hs h f4⟩)) (fun R s2 => (ct_X11_heard_0 l G h1 h2 h3 h22 (by omega) (hso.so hcl8)).n.imp (fun r P3 s3 ⟨a, b, c⟩ => ⟨a, c, _, b, rfl, cq_h⟩)))
          | 1, _ =>
            have hcc := ct_X10_heard_1 l G (sz := sz) h64 p71 p76 p77 hSR (f4.trans h22) hsd hcl8 hCS (hso.SO hp) u1 v1 (cx_ip_1 h1 h2) m1 (cx_im_1 h3)
            rw [eli] at hcc
            exact Or.inl (cSt_v (hcc.n.imp (fun r P2 s2 ⟨a, b, c⟩ => ⟨a, c, by rw [b]; exact cI_hs h f4⟩)) (fun R s2 => (ct_X11_heard_1 l G h1 h2 h3 h22 (by omega) (hso.so hcl8)).n.imp (fun r P3 s3 ⟨a, b, c⟩ => ⟨a, c, _, b, rfl, cq_h⟩)))
          | 2, _ =>
            have hcc := ct_X10_heard_2 l G (sz := sz) h64 p71 p76 p77 hSR (f4.trans h22) hsd hcl8 hCS (hso.SO hp) u1 v1 (cx_ip_1 h1 h2) m1 (cx_im_1 h3)
            rw [eli] at hcc
            exact Or.inl (cSt_v (hcc.n.imp (fun r P2 s2 ⟨a, b, c⟩ => ⟨a, c, by rw [b]; exact cI_hs h f4⟩)) (fun R s2 => (ct_X11_heard_2 l G h1 h2 h3 h22 (by omega) (hso.so hcl8)).n.imp (fun r P3 s3 ⟨a, b, c⟩ => ⟨a, c, _, b, rfl, cq_h⟩)))
        · exact cSs_1 (cSx_q (by decide) (by decide) (Or.inl rfl) (bad (fun q => h4 q.2.2)) (fun R s2 => ct_X11_heard_b4 l G h1 h2 h3 h4))
      · exact cSs_1 (cSx_q (by decide) (by decide) (Or.inl rfl) (bad (fun q => h3 (cx_im_t q.2.1))) (fun R s2 => ct_X11_heard_b3 l G h1 h2 h3))
    · exact cSs_1 (cSx_q (by decide) (by decide) (Or.inl rfl) (bad (fun q => h2 (cx_ip_t q.1).2)) (fun R s2 => ct_X11_heard_b2 l G h1 h2))
  · exact cSs_1 (cSx_q (by decide) (by decide) (Or.inl rfl) (bad (fun q => h1 (cx_ip_t q.1).1)) (fun R s2 => ct_X11_heard_b1 l G h1))

theorem cs_witness (l : Launch) (G : kx_G) (hst : l.stackTraces = false) {P : kx_P} {sz : Nat} {M : Nat → Int32} {A : Nat → Nat → Int32} {L : Nat → Nat → Int64} {cl mi se : Nat} {bl : Nat → Nat} (h : cI P sz (M, A, L) cl mi se bl) (x y z w : Int32) : cSs l G sX10_witness sX11_witness [.int x, .int y, .int z, .int w] [.int x, .int y, .int z, .int w] P sz (M, A, L) se bl cS_A := by
  obtain ⟨K, h64, h69, h7, hcl, k2, k5, k10, k11, h21⟩ := cI_k h
  obtain ⟨sd, hm, ⟨-, -, -, -, -, -, -, ⟨Fs, p71, f4⟩, hSR, ⟨X, p76⟩, ⟨Y, p77⟩, ⟨cv, Fr, p78⟩, ⟨O, p79⟩, ⟨B, p80⟩, ⟨Fp, p81, f7⟩, ⟨NU, p82⟩, ⟨WS, p83⟩, -, -, -, -, p1, p2⟩, -⟩ := id h
  obtain ⟨hcl8, h22, hsd, hso, hmi⟩ : cl ≤ 8 ∧ M 22 = nI sd ∧ sd < 2 ^ 29 ∧ cR_so A sd cl ∧ mi ≤ 100000 := ⟨hm.2.2.1, hm.2.2.2.2.2.2.2.2.2.1, by have a := hm.2.2.2.2.2.2.2.2.2.2.1; have b := hm.2.2.2.2.1; omega, hm.2.2.2.2.2.2.2.2.2.2.2.1, hm.2.2.2.2.1⟩
  have f4 : Fs 4 = M 22 := f4
  obtain ⟨CC, VV, hCS, hCV, hp, hg⟩ := cI_CS h
  have bad : ¬ (cx_ip x y = 1 ∧ 1 ≤ z ∧ z ≤ 12) → kx_X l G sX10_witness 7 (.ref 64 :: [.int x, .int y, .int z, .int w]) P sz "java/lang/IllegalArgumentException" := fun hb => ct_X10_witness_b l G hst hb (cx_ip_b x y)
  by_cases h1 : 0 ≤ x ∧ x ≤ 99
  · by_cases h2 : 0 ≤ y ∧ y ≤ 99
    · by_cases h3 : 1 ≤ z ∧ z ≤ 12
      · obtain ⟨u, u1, rfl⟩ := nI_of3 (n := 99) (by decide) h1.1 h1.2
        obtain ⟨v, v1, rfl⟩ := nI_of3 (n := 99) (by decide) h2.1 h2.2
        have ewi : cx_wi (A 119) (fun t => cx_tk CC VV (A 118) (A 119) (A 120) (A 121) (nI u) (nI v) t sd) z sd (min sd 200) 0 w (-1) = ck_wt A (nI u) (nI v) z w sd (min sd 200) 0 0 (-1) := by
          by_cases hw : w < 0
          · rw [cx_wi_neg hw]
            exact (ck_wt_neg (A := A) hw (min sd 200) 0 0 (-1) (by omega)).symm
          · obtain ⟨k, k1, rfl⟩ := nI_of hw
            have := cx_wi_eq (CC := CC) (VV := VV) hp hso hcl8 u1 v1 h3.1 k1 (min sd 200) 0 0 (-1) (Nat.zero_le _)
            rw [Nat.sub_zero] at this
            exact this
        have hcc := ct_X10_witness_t l G (sz := sz) (k := w) h64 p71 p76 p77 hSR (f4.trans h22) hsd hcl8 hCS (hso.SO hp) u1 v1 (cx_ip_1 h1 h2) h3.1 h3.2
        rw [ewi] at hcc
        exact Or.inl (cSt_v (hcc.imp (fun r P2 s2 ⟨a, ⟨F2, X2, Y2, b1, b2⟩, c⟩ => ⟨a, c, by rw [b1]; exact cI_hs h (b2.trans h22.symm)⟩)) (fun R s2 => (ct_X11_witness_t l G h1 h2 h3 h22 (by omega) (hso.so hcl8)).imp (fun r P3 s3 ⟨c, a, v, F, F2, b⟩ => ⟨a, c, _, b, rfl, cq_h⟩)))
      · exact cSs_1 (cSx_q (by decide) (by decide) (Or.inl rfl) (bad (fun q => h3 q.2)) (fun R s2 => ct_X11_witness_b3 l G h1 h2 h3))
    · exact cSs_1 (cSx_q (by decide) (by decide) (Or.inl rfl) (bad (fun q => h2 (cx_ip_t q.1).2)) (fun R s2 => ct_X11_witness_b2 l G h1 h2))
  · exact cSs_1 (cSx_q (by decide) (by decide) (Or.inl rfl) (bad (fun q => h1 (cx_ip_t q.1).1)) (fun R s2 => ct_X11_witness_b1 l G h1))

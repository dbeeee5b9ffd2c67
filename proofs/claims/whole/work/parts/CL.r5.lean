/-! ONE CALL, both ways: what the law's loop keeps, and what it wants of each method -/
/-- the class and the reference stand alike in the world P; next name sz -/
def cI (P : kx_P) (sz : Nat) (S : ck_S) (cl mi se : Nat) (bl : Nat → Nat) : Prop := ∃ sd : Nat, cR_m S.1 S.2.1 S.2.2 cl mi sd ∧ cR_st P S.1 S.2.1 cl se bl ∧ cR_dy P S.2.1 S.2.2 cl se sz bl (fun _ => mi) ∧ P = ck_W S P
def cq (S S2 : ck_S) : Prop := cR_eq S.1 S2.1 S.2.1 S2.2.1 S.2.2 S2.2.2
/-- room for the plan's notes, as long as there are none -/
def cro (bl : Nat → Nat) : Nat := if bl 17 = 0 then 40000 else 0
/-- a value of the method's type -/
def cvT (y : kx_S) (v : Value) : Prop := (y.2.2.2 = some .long → ∃ x, v = .long x) ∧ (¬ y.2.2.2 = some .long → ∃ x, v = .int x)
theorem cvT_i {y : kx_S} {x : Int32} (h : ¬ y.2.2.2 = some .long) : cvT y (.int x) := ⟨fun z => absurd z h, fun _ => ⟨x, rfl⟩⟩
theorem cvT_l {y : kx_S} {x : Int64} (h : y.2.2.2 = some .long) : cvT y (.long x) := ⟨fun _ => ⟨x, rfl⟩, fun z => absurd h z⟩
/-- a call that comes back in both, with the same value -/
def cSt (l : Launch) (G : kx_G) (yc ym : kx_S) (Ac Am : List Value) (P : kx_P) (sz : Nat) (S : ck_S) (se : Nat) (bl : Nat → Nat) : Prop :=
  ∃ (v : Value) (S1 : ck_S) (dc dm mc ms cl1 mi1 se1 : Nat) (bl1 : Nat → Nat), cvT ym v ∧ dc ≤ 50 ∧ dm ≤ 50 ∧ mc ≤ 8 ∧ ms + cro bl1 ≤ 2200 + cro bl ∧ se1 ≤ se + 1 ∧
    kx_Mn l G yc dc mc ms (.ref 64 :: Ac) P sz (fun r P2 s2 => r = some v ∧ sz ≤ s2 ∧ cR_af P P2 S1 cl1 mi1 se1 s2 bl1) ∧
    ∀ (R : kx_P) (s2 : Nat), kx_Mn l G ym dm 0 0 (.ref 93 :: Am) (ck_W S R) s2 (fun r P3 s3 => r = some v ∧ s3 = s2 ∧ ∃ S2 : ck_S, P3 = ck_W S2 R ∧ S2.1 0 = 0 ∧ cq S1 S2)
/-- a call that throws E, code cd -/
def cSx (l : Launch) (G : kx_G) (yc ym : kx_S) (Ac Am : List Value) (P : kx_P) (sz : Nat) (S : ck_S) (E : String) (cd : Int32) : Prop :=
  ∃ dc dm : Nat, dc ≤ 50 ∧ dm ≤ 50 ∧ kx_X l G yc dc (.ref 64 :: Ac) P sz E ∧
    ∀ (R : kx_P) (s2 : Nat), kx_Mn l G ym dm 0 0 (.ref 93 :: Am) (ck_W S R) s2 (fun r P3 s3 => (∃ v, r = some v ∧ cvT ym v) ∧ s3 = s2 ∧ ∃ S2 : ck_S, P3 = ck_W S2 R ∧ S2.1 0 = cd ∧ cq S S2)
theorem cq.rf (S : ck_S) : cq S S := ⟨fun _ _ => rfl, fun _ _ => rfl, rfl⟩
theorem cq_0 {M : Nat → Int32} {A : Nat → Nat → Int32} {L : Nat → Nat → Int64} {x : Int32} : cq (M, A, L) (upd M 0 x, A, L) := ⟨fun j hj => pk_un (by omega), fun _ _ => rfl, rfl⟩
theorem cq_00 {M : Nat → Int32} {A : Nat → Nat → Int32} {L : Nat → Nat → Int64} {x y : Int32} : cq (M, A, L) (upd (upd M 0 x) 0 y, A, L) := ⟨fun j hj => by show upd (upd M 0 x) 0 y j = M j; rw [pk_un (by omega), pk_un (by omega)], fun _ _ => rfl, rfl⟩
theorem cI.af {P : kx_P} {sz : Nat} {S : ck_S} {cl mi se : Nat} {bl : Nat → Nat} (h : cI P sz S cl mi se bl) : cR_af P P S cl mi se sz bl := by
  obtain ⟨sd, a, b, c, -⟩ := h
  exact ⟨sd, a, b, c, cR_fx.rf P⟩
/-- the class's world is as it was, the reference's changes nothing that counts -/
theorem cSt_q {l : Launch} {G : kx_G} {yc ym : kx_S} {Ac Am : List Value} {P : kx_P} {sz : Nat} {S : ck_S} {cl mi se : Nat} {bl : Nat → Nat} {v : Value} {dc dm : Nat} (h : cI P sz S cl mi se bl) (hdc : dc ≤ 50) (hdm : dm ≤ 50)
    (hc : kx_M l G yc dc 0 0 (.ref 64 :: Ac) P sz (some v) P sz) (S2 : ck_S) (h0 : S2.1 0 = 0) (hq : cq S S2) (hm : ∀ (R : kx_P) (s2 : Nat), kx_M l G ym dm 0 0 (.ref 93 :: Am) (ck_W S R) s2 (some v) (ck_W S2 R) s2) (hT : cvT ym v := by first | exact cvT_i (by decide) | exact cvT_i (fun h => by cases h) | exact cvT_l rfl) : cSt l G yc ym Ac Am P sz S se bl :=
  ⟨v, S, dc, dm, 0, 0, cl, mi, se, bl, hT, hdc, hdm, by omega, by omega, by omega, hc.n.imp (fun r P2 s2 ⟨a, b, c⟩ => ⟨a, by omega, by rw [b, c]; exact h.af⟩),
    fun R s2 => (hm R s2).n.imp (fun r P3 s3 ⟨a, b, c⟩ => ⟨a, c, S2, b, h0, hq⟩)⟩
/-- the class's world changes to P2 -/
theorem cSt_w {l : Launch} {G : kx_G} {yc ym : kx_S} {Ac Am : List Value} {P P2 : kx_P} {sz s9 : Nat} {S : ck_S} {se : Nat} {bl : Nat → Nat} {v : Value} {dc dm mc ms cl1 mi1 se1 : Nat} {bl1 : Nat → Nat} (S1 : ck_S) (hdc : dc ≤ 50) (hdm : dm ≤ 50) (hmc : mc ≤ 8) (hms : ms + cro bl1 ≤ 2200 + cro bl) (hse : se1 ≤ se + 1)
    (hc : kx_M l G yc dc mc ms (.ref 64 :: Ac) P sz (some v) P2 s9) (hs9 : sz ≤ s9) (haf : cR_af P P2 S1 cl1 mi1 se1 s9 bl1) (S2 : ck_S) (h0 : S2.1 0 = 0) (hq : cq S1 S2) (hm : ∀ (R : kx_P) (s2 : Nat), kx_M l G ym dm 0 0 (.ref 93 :: Am) (ck_W S R) s2 (some v) (ck_W S2 R) s2) (hT : cvT ym v := by first | exact cvT_i (by decide) | exact cvT_i (fun h => by cases h) | exact cvT_l rfl) : cSt l G yc ym Ac Am P sz S se bl :=
  ⟨v, S1, dc, dm, mc, ms, cl1, mi1, se1, bl1, hT, hdc, hdm, hmc, hms, hse, hc.n.imp (fun r P3 s2 ⟨a, b, c⟩ => ⟨a, by omega, by rw [b, c]; exact haf⟩),
    fun R s2 => (hm R s2).n.imp (fun r P3 s3 ⟨a, b, c⟩ => ⟨a, c, S2, b, h0, hq⟩)⟩
/-- the class's world is as it was, both throw -/
theorem cSx_q {l : Launch} {G : kx_G} {yc ym : kx_S} {Ac Am : List Value} {P : kx_P} {sz : Nat} {M : Nat → Int32} {A : Nat → Nat → Int32} {L : Nat → Nat → Int64} {E : String} {cd : Int32} {v : Value} {dc dm : Nat} (hdc : dc ≤ 50) (hdm : dm ≤ 50) (hv : v = .int 0 ∨ v = .long 0)
    (hc : kx_X l G yc dc (.ref 64 :: Ac) P sz E) (hm : ∀ (R : kx_P) (s2 : Nat), kx_M l G ym dm 0 0 (.ref 93 :: Am) (mW M A L R) s2 (some v) (mW (upd (upd M 0 0) 0 cd) A L R) s2) (hT : cvT ym v := by first | exact cvT_i (by decide) | exact cvT_i (fun h => by cases h) | exact cvT_l rfl) : cSx l G yc ym Ac Am P sz (M, A, L) E cd :=
  ⟨dc, dm, hdc, hdm, hc, fun R s2 => (hm R s2).n.imp (fun r P3 s3 ⟨a, b, c⟩ => ⟨⟨v, a, hT⟩, c, (upd (upd M 0 0) 0 cd, A, L), b, (show upd (upd M 0 0) 0 cd 0 = cd from pk_us), cq_00⟩)⟩
/-- the world of clock c of the class, in the words of the class's contracts -/
theorem cI_c {P : kx_P} {sz : Nat} {M : Nat → Int32} {A : Nat → Nat → Int32} {L : Nat → Nat → Int64} {cl mi se c : Nat} {bl : Nat → Nat} (h : cI P sz (M, A, L) cl mi se bl) (hc : c < cl) : ∃ (K Al V T Q Fo St S1 C Kp : Nat → Int32),
    P 64 = kO 10 (kf (cr10 (cR_sv (bl 16))) K) ∧ P 69 = kR 8 (fun i => if i < cl then some (bl (8 + i)) else none) ∧ K 7 = nI cl ∧ cl ≤ 8 ∧ cx_R P (bl (8 + c)) (bl c) V T Q Fo St Al (A 94) ∧ P (bl c + 5) = kI 0 64 S1 ∧ P (bl (8 + c)) = kO 1 (kf (cr1 (.ref (bl c)) (L 116 c) (.ref (bl (8 + c) + 1))) C) ∧ P (bl (8 + c) + 1) = kI 0 1667 Kp ∧
    P 65 = kO 0 (kf cr0 Al) ∧ Al 0 = nI mi ∧ Al 1 = M 3 ∧ Al 3 = M 2 ∧ mi ≤ 100000 ∧ M 1 = nI mi ∧ M 21 = nI cl ∧ cR_v A c V T Q Fo St ∧ cR_C A c C ∧ cR_kp A c mi Kp ∧ cR_g A L c := by
  obtain ⟨sd, hm, hst, ⟨hB, hcc, -⟩, -⟩ := h
  obtain ⟨⟨K, p64, -, -, k7, -⟩, ⟨Al, p65, al0, al1, al3⟩, p66, -, -, p69, -, -, -, -, -, -, -, -, -, -, -, -, -, -, -, p1, -⟩ := hst
  obtain ⟨V, T, Q, Fo, St, S1, C, Kp, c1, c2, c3, c4, c5, c6⟩ := hcc c hc
  have hcl : cl ≤ 8 := hm.2.2.1
  exact ⟨K, Al, V, T, Q, Fo, St, S1, C, Kp, p64, p69, k7.trans hm.2.1, hcl, cR_c_R hB hcl hc c1 p65 p66 p1, c1.2.2.2.2.2, c2, c3, p65, al0.trans hm.2.2.2.1, al1, al3, hm.2.2.2.2.1, hm.2.2.2.1, hm.2.1, c4, c5, c6, hm.2.2.2.2.2.2.2.2.2.2.2.2.1 c hc⟩
/-- the keeper's cell -/
theorem cI_k {P : kx_P} {sz : Nat} {M : Nat → Int32} {A : Nat → Nat → Int32} {L : Nat → Nat → Int64} {cl mi se : Nat} {bl : Nat → Nat} (h : cI P sz (M, A, L) cl mi se bl) : ∃ K : Nat → Int32, P 64 = kO 10 (kf (cr10 (cR_sv (bl 16))) K) ∧ P 69 = kR 8 (fun i => if i < cl then some (bl (8 + i)) else none) ∧ K 7 = nI cl ∧ cl ≤ 8 ∧ K 2 = M 5 ∧ K 5 = M 14 ∧ K 10 = M 59 ∧ K 11 = M 60 ∧ M 21 = nI cl := by
  obtain ⟨sd, hm, hst, -, -⟩ := h
  obtain ⟨⟨K, p64, k2, k5, k7, k10, k11⟩, -, -, -, -, p69, -⟩ := hst
  exact ⟨K, p64, p69, k7.trans hm.2.1, hm.2.2.1, k2, k5, k10, k11, hm.2.1⟩
/-- a number that is no clock: as the class and as the reference see it -/
theorem cl_no {x K7 M21 : Int32} {cl : Nat} (hcl : cl ≤ 8) (h7 : K7 = nI cl) (h21 : M21 = nI cl) (h : ¬ ∃ c : Nat, c < cl ∧ x = nI c) : (x < 0 ∨ K7 ≤ x) ∧ ¬ (0 ≤ x ∧ x ≤ M21 - 1) := by
  have e1 : (M21 - 1).toInt = (cl : Int) - 1 := by
    rw [h21, fb_subI (by rw [nI_toInt (by omega), show (1 : Int32).toInt = 1 from rfl]; omega) (by rw [nI_toInt (by omega), show (1 : Int32).toInt = 1 from rfl]; omega), nI_toInt (by omega)]
    rfl
  have key : ¬ (0 ≤ x.toInt ∧ x.toInt < cl) := by
    rintro ⟨h1, h2⟩
    refine h ⟨x.toInt.toNat, by omega, ?_⟩
    apply Int32.toInt_inj.mp
    rw [nI_toInt (by omega)]
    omega
  rw [h7]
  simp only [Int32.lt_iff_toInt_lt, Int32.le_iff_toInt_le, e1, show (0 : Int32).toInt = 0 from rfl, nI_toInt (show cl < 2 ^ 31 by omega)]
  omega

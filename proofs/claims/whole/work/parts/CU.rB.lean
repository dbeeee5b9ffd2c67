/-! EACH CALL, both ways: round, plan -/
theorem cl_sh {s : Nat} (hs : s < 2 ^ 31) : ∀ cl, cl ≤ 8 → nI s >>> (nI cl &&& 31) = nI (s / 2 ^ cl) := by
  intro cl h
  rcases (show cl = 0 ∨ cl = 1 ∨ cl = 2 ∨ cl = 3 ∨ cl = 4 ∨ cl = 5 ∨ cl = 6 ∨ cl = 7 ∨ cl = 8 by omega) with rfl | rfl | rfl | rfl | rfl | rfl | rfl | rfl | rfl
  · rw [pk_shrN hs _ 0 (by decide)]
  · rw [pk_shrN hs _ 1 (by decide)]
  · rw [pk_shrN hs _ 2 (by decide)]
  · rw [pk_shrN hs _ 3 (by decide)]
  · rw [pk_shrN hs _ 4 (by decide)]
  · rw [pk_shrN hs _ 5 (by decide)]
  · rw [pk_shrN hs _ 6 (by decide)]
  · rw [pk_shrN hs _ 7 (by decide)]
  · rw [pk_shrN hs _ 8 (by decide)]
theorem cl_pc8 : ∀ w, w < 256 → 1 ≤ w → 1 ≤ ck_pc w ∧ ck_pc w ≤ 8 := by decide +kernel
theorem cl_s1 : ∀ c, c < 9 → (1 : Int32) <<< (nI c &&& 31) = nI (2 ^ c) := by decide +kernel
/-- a set of clocks, both ways -/
theorem cl_S {cl s : Nat} (hcl : cl ≤ 8) (hs1 : 1 ≤ s) (hs : s < 2 ^ 31) :
    (s < 2 ^ cl → s < 256 ∧ nI s >>> (nI cl &&& 31) = 0 ∧ cj_bc (nI s) = nI (ck_pc s) ∧ ck_bitsN (nI s) 8 = nI (ck_pc s) ∧ 1 ≤ ck_pc s ∧ ck_pc s ≤ 8 ∧ ∀ mm, mm ≤ 8 → cx_ac (nI s) (nI cl) (nI mm) = if ck_pc s ≤ mm then 1 else 0) ∧
    (¬ s < 2 ^ cl → ¬ nI s >>> (nI cl &&& 31) = 0 ∧ ∀ mm : Int32, cx_ac (nI s) (nI cl) mm = 0) := by
  have e2 : (1 : Int32) <<< (nI cl &&& 31) = nI (2 ^ cl) := cl_s1 cl (by omega)
  have p8 : 2 ^ cl ≤ 256 := Nat.le_trans (Nat.pow_le_pow_right (n := 2) (by decide) hcl) (by decide)
  have q1 : ¬ nI s < 1 := fun z => by
    have z2 : nI s < nI 1 := z
    have := (nI_ltI (a := s) (b := 1) hs (by decide)).mp z2
    omega
  refine ⟨fun h => ?_, fun h => ⟨?_, fun mm => ?_⟩⟩
  · have s256 : s < 256 := by omega
    have pc1 := cl_pc8 s s256 hs1
    refine ⟨s256, ck_sh0 cl hcl s h, cj_bc_n s s256, ck_bN s s256, pc1.1, pc1.2, fun mm hm => ?_⟩
    unfold cx_ac
    rw [if_neg q1, e2, if_neg (fun z => by have := (nI_leI (a := 2 ^ cl) (b := s) (by omega) hs).mp z; omega), cj_bc_n s s256]
    by_cases hq : ck_pc s ≤ mm
    · rw [if_neg (fun z => by have := (nI_ltI (a := mm) (b := ck_pc s) (by omega) (by omega)).mp z; omega), if_pos hq]
    · rw [if_pos ((nI_ltI (a := mm) (b := ck_pc s) (by omega) (by omega)).mpr (by omega)), if_neg hq]
  · rw [cl_sh hs cl hcl]
    intro z
    have z2 : nI (s / 2 ^ cl) = nI 0 := z
    have h1 : 1 ≤ s / 2 ^ cl := Nat.div_pos (by omega) (Nat.pow_pos (by decide))
    have h2 : s / 2 ^ cl ≤ s := Nat.div_le_self _ _
    have := (nI_eq (a := s / 2 ^ cl) (b := 0) (by omega) (by decide)).mp z2
    omega
  · unfold cx_ac
    rw [if_neg q1, e2, if_pos ((nI_leI (a := 2 ^ cl) (b := s) (by omega) hs).mpr (by omega))]
theorem cl_neg {x y m : Int32} (h : ¬ 0 < x) : cx_ac x y m = 0 := by
  unfold cx_ac
  rw [if_pos (Int32.lt_iff_toInt_lt.mpr (by
    have h1 := Int32.not_lt.mp h
    have h2 := Int32.le_iff_toInt_le.mp h1
    have e0 : (0 : Int32).toInt = 0 := rfl
    have e1 : (1 : Int32).toInt = 1 := rfl
    omega))]
theorem cl_pos {x : Int32} (h : 0 < x) : ∃ s : Nat, 1 ≤ s ∧ s < 2 ^ 31 ∧ x = nI s := by
  obtain ⟨k, k1, rfl⟩ := nI_of (x := x) (fun z => by
    have h1 := Int32.lt_iff_toInt_lt.mp z
    have h2 := Int32.lt_iff_toInt_lt.mp h
    omega)
  refine ⟨k, ?_, k1, rfl⟩
  have z : nI 0 < nI k := h
  have := (nI_ltI (a := 0) (b := k) (by decide) k1).mp z
  omega
/-- what is left and may be left in the clocks, both ways -/
theorem cI_lr {A CC VV : Nat → Nat → Int32} {L : Nat → Nat → Int64} {cl : Nat} (hg : ∀ i, i < cl → cR_g A L i) (hCV : ∀ i, i < cl → cR_C A i (CC i) ∧ VV i 0 = A 102 (16 * i + 0) ∧ VV i 7 = A 102 (16 * i + 14)) :
    ∃ lf run : Nat → Nat, ∀ i, i < cl → CC i 6 = nI (lf i) ∧ A 108 i = nI (lf i) ∧ VV i 0 = nI (run i) ∧ A 102 (16 * i + 0) = nI (run i) ∧ lf i ≤ 1440 * run i ∧ run i ≤ 31 ∧ 1 ≤ run i := by
  refine ⟨fun i => (A 108 i).toNatClampNeg, fun i => (A 102 (16 * i + 0)).toNatClampNeg, fun i hi => ?_⟩
  obtain ⟨⟨-, ⟨r1, r2, r3, r4, r15, r115, ⟨run, lf, q1, q2, q3, q4, q5⟩, r113⟩, -⟩, -⟩ := hg i hi
  obtain ⟨⟨-, -, -, -, c6, -⟩, v0, -⟩ := hCV i hi
  have e1 : (A 108 i).toNatClampNeg = lf := by rw [q4, nI_clamp (by omega)]
  have e2 : (A 102 (16 * i + 0)).toNatClampNeg = run := by
    rw [show A 102 (16 * i + 0) = nI run from q3, nI_clamp (by omega)]
  dsimp only
  rw [e1, e2]
  exact ⟨c6.trans q4, q4, v0.trans q3, q3, q5, q2, q1⟩
theorem cI_far {A CC VV : Nat → Nat → Int32} {cl : Nat} (hp : cR_p A CC VV cl) : ∀ i x y, i < cl → x ≤ 99 → y ≤ 99 → ∃ f : Nat, f ≤ 198 ∧ ck_wy A (nI x) (nI y) i = nI f := by
  intro i x y hi hx hy
  obtain ⟨-, -, -, u, v, hu, hv, eu, ev⟩ := hp i hi
  obtain ⟨f, f1, f2⟩ := cx_ab hx hu
  obtain ⟨g, g1, g2⟩ := cx_ab hy hv
  refine ⟨f + g, by omega, ?_⟩
  unfold ck_wy
  rw [eu, ev, f2, g2, nI_add]
theorem cs_round (l : Launch) (G : kx_G) (hst : l.stackTraces = false) {P : kx_P} {sz : Nat} {M : Nat → Int32} {A : Nat → Nat → Int32} {L : Nat → Nat → Int64} {cl mi se : Nat} {bl : Nat → Nat} (h : cI P sz (M, A, L) cl mi se bl) (x y : Int32) : cSs l G sX10_round sX11_round [.int x, .int y] [.int x, .int y] P sz (M, A, L) se bl cS_A := by
  obtain ⟨K, h64, h69, h7, hcl, k2, k5, k10, k11, h21⟩ := cI_k h
  obtain ⟨sd, hm, ⟨-, -, -, -, -, -, -, -, -, -, -, ⟨cv, Fr, p78⟩, ⟨O, p79⟩, ⟨B, p80⟩, -⟩, -⟩ := id h
  obtain ⟨⟨-, -, kx, ky, -, -, hkx, hky, e59, e60⟩, -⟩ := id hm
  have e59 : M 59 = nI kx := e59
  have e60 : M 60 = nI ky := e60
  obtain ⟨CC, VV, hCS, hCV, hp, hg⟩ := cI_CS h
  obtain ⟨lf, run, hlr⟩ := cI_lr hg hCV
  by_cases h1 : 0 < x
  · obtain ⟨s, hs1, s31, rfl⟩ := cl_pos h1
    obtain ⟨S1, S2⟩ := cl_S hcl hs1 s31
    by_cases h2 : s < 2 ^ cl
    · obtain ⟨s256, ez, bc, bN, p1, p8, ac⟩ := S1 h2
      by_cases h3 : ck_pc s ≤ 6
      · have hac : cx_ac (nI s) (K 7) 6 = 1 := by
          rw [h7]
          exact (ac 6 (by decide)).trans (if_pos h3)
        have e1 : (1 : Int32) + cj_bc (nI s) = nI (ck_pc s + 1) := by rw [bc, show (1 : Int32) = nI 1 from rfl, nI_add, Nat.add_comm]
        have e2 : ck_bitsN (nI s) 8 + 1 = nI (ck_pc s + 1) := by rw [bN, show (1 : Int32) = nI 1 from rfl, nI_add]
        have e3 : 1 ≤ ck_bitsN (nI s) 8 ∧ ck_bitsN (nI s) 8 ≤ 6 := by
          rw [bN]
          exact ⟨(nI_leI (a := 1) (b := ck_pc s) (by decide) (by omega)).mpr p1, (nI_leI (a := ck_pc s) (b := 6) (by omega) (by decide)).mpr h3⟩
        by_cases h4 : 0 ≤ y ∧ y ≤ nI (ck_pc s + 1)
        · obtain ⟨w, w1, rfl⟩ := nI_of3 (n := ck_pc s + 1) (by omega) h4.1 h4.2
          have key := cx_go_eq (CC := CC) (VV := VV) (K := ck_pc s) (lf := lf) (run := run) hcl ⟨p1, h3⟩ hp (fun i hi => by obtain ⟨a1, a2, a3, a4, a5, a6, -⟩ := hlr i hi; exact ⟨a1, a2, a3, a4, a5, a6⟩) (cI_far hp) 6 (upd (upd Fr 3 1000000000) 4 1000000000, O, B) (upd (upd M 0 0) 63 0, A) s 0 kx ky 0 0 s256 h3 (by omega) (by omega) hkx hky (Nat.le_refl _) (by omega) (fun _ _ _ => rfl) (fun j hj => absurd hj (Nat.not_lt_zero _)) (Or.inl ⟨show upd (upd M 0 0) 63 0 63 = 0 from pk_us, show upd (upd Fr 3 1000000000) 4 1000000000 3 = 1000000000 from (pk_un (by decide)).trans pk_us, show upd (upd Fr 3 1000000000) 4 1000000000 4 = 1000000000 from pk_us⟩)
          have e63 := ck_try_63 (K := ck_pc s) hcl ⟨p1, h3⟩ 6 (upd (upd M 0 0) 63 0, A) s 0 (nI kx) (nI ky) (nI 0) (nI 0) h2 s256 h3 (by omega) (Or.inl (show upd (upd M 0 0) 63 0 63 = 0 from pk_us))
          have fr := ck_try_fr (cl := cl) 6 (upd (upd M 0 0) 63 0, A) (nI s) 0 (nI kx) (nI ky) (nI 0) (nI 0)
          have c0 : w = 0 → kx_M l G sX10_round 20 0 0 [.ref 64, .int (nI s), .int (nI w)] P sz (some (.int ((cx_go CC VV cl 6 (upd (upd Fr 3 1000000000) 4 1000000000, O, B) 0 (nI s) (nI kx) (nI ky) (nI 0) (nI 0)).1 3))) (rW P (cx_go CC VV cl 6 (upd (upd Fr 3 1000000000) 4 1000000000, O, B) 0 (nI s) (nI kx) (nI ky) (nI 0) (nI 0))) sz := by
            rintro rfl
            have := ct_X10_round_0 l G (sz := sz) h64 p78 p79 p80 hcl hCS hac (by rw [e1]; exact Int32.not_lt.mp (nI_pos (by omega)))
            rw [k10, k11, e59, e60] at this
            exact this
          have c1 : w = 1 → kx_M l G sX10_round 20 0 0 [.ref 64, .int (nI s), .int (nI w)] P sz (some (.int ((cx_go CC VV cl 6 (upd (upd Fr 3 1000000000) 4 1000000000, O, B) 0 (nI s) (nI kx) (nI ky) (nI 0) (nI 0)).1 4))) (rW P (cx_go CC VV cl 6 (upd (upd Fr 3 1000000000) 4 1000000000, O, B) 0 (nI s) (nI kx) (nI ky) (nI 0) (nI 0))) sz := by
            rintro rfl
            have := ct_X10_round_1 l G (sz := sz) h64 p78 p79 p80 hcl hCS hac (by rw [e1]; exact (nI_leI (a := 1) (b := ck_pc s + 1) (by decide) (by omega)).mpr (by omega))
            rw [k10, k11, e59, e60] at this
            exact this
          have c2 : ∀ j, w = j + 2 → kx_M l G sX10_round 20 0 0 [.ref 64, .int (nI s), .int (nI w)] P sz (some (.int ((cx_go CC VV cl 6 (upd (upd Fr 3 1000000000) 4 1000000000, O, B) 0 (nI s) (nI kx) (nI ky) (nI 0) (nI 0)).2.2 j))) (rW P (cx_go CC VV cl 6 (upd (upd Fr 3 1000000000) 4 1000000000, O, B) 0 (nI s) (nI kx) (nI ky) (nI 0) (nI 0))) sz := by
            rintro j rfl
            have := ct_X10_round_2 l G (sz := sz) h64 p78 p79 p80 hcl hCS hac (j := j) (by omega) (by rw [e1]; exact (nI_leI (a := j + 2) (b := ck_pc s + 1) (by omega) (by omega)).mpr (by omega))
            rw [k10, k11, e59, e60] at this
            exact this
          have m0 : w = 0 → ∀ (R : kx_P) (s2 : Nat), kx_M l G sX11_round 10 0 0 [.ref 93, .int (nI s), .int (nI w)] (mW M A L R) s2 (some (.int ((ck_try cl 6 (upd (upd M 0 0) 63 0, A) (nI s) 0 (nI kx) (nI ky) (nI 0) (nI 0)).1 61))) (mW (ck_try cl 6 (upd (upd M 0 0) 63 0, A) (nI s) 0 (nI kx) (nI ky) (nI 0) (nI 0)).1 (ck_try cl 6 (upd (upd M 0 0) 63 0, A) (nI s) 0 (nI kx) (nI ky) (nI 0) (nI 0)).2 L R) s2 := by
            rintro rfl R s2
            have := ct_X11_round_0 l G (A := A) (L := L) (R := R) (sz := s2) h21 hcl hs1 h2 h3
            rw [e59, e60] at this
            exact this
          have m1 : w = 1 → ∀ (R : kx_P) (s2 : Nat), kx_M l G sX11_round 10 0 0 [.ref 93, .int (nI s), .int (nI w)] (mW M A L R) s2 (some (.int ((ck_try cl 6 (upd (upd M 0 0) 63 0, A) (nI s) 0 (nI kx) (nI ky) (nI 0) (nI 0)).1 62))) (mW (ck_try cl 6 (upd (upd M 0 0) 63 0, A) (nI s) 0 (nI kx) (nI ky) (nI 0) (nI 0)).1 (ck_try cl 6 (upd (upd M 0 0) 63 0, A) (nI s) 0 (nI kx) (nI ky) (nI 0) (nI 0)).2 L R) s2 := by
            rintro rfl R s2
            have := ct_X11_round_1 l G (A := A) (L := L) (R := R) (sz := s2) h21 hcl hs1 h2 h3
            rw [e59, e60] at this
            exact this
          have m2 : ∀ j, w = j + 2 → ∀ (R : kx_P) (s2 : Nat), kx_M l G sX11_round 10 0 0 [.ref 93, .int (nI s), .int (nI w)] (mW M A L R) s2 (some (.int ((ck_try cl 6 (upd (upd M 0 0) 63 0, A) (nI s) 0 (nI kx) (nI ky) (nI 0) (nI 0)).2 127 j))) (mW (ck_try cl 6 (upd (upd M 0 0) 63 0, A) (nI s) 0 (nI kx) (nI ky) (nI 0) (nI 0)).1 (ck_try cl 6 (upd (upd M 0 0) 63 0, A) (nI s) 0 (nI kx) (nI ky) (nI 0) (nI 0)).2 L R) s2 := by
            rintro j rfl R s2
            have := ct_X11_round_2 l G (A := A) (L := L) (R := R) (sz := s2) h21 hcl hs1 h2 h3 (j := j) (by omega)
            rw [e59, e60] at this
            exact this
          generalize cx_go CC VV cl 6 (upd (upd Fr 3 1000000000) 4 1000000000, O, B) 0 (nI s) (nI kx) (nI ky) (nI 0) (nI 0) = TT at key c0 c1 c2
          generalize ck_try cl 6 (upd (upd M 0 0) 63 0, A) (nI s) 0 (nI kx) (nI ky) (nI 0) (nI 0) = SS at key e63 fr m0 m1 m2
          have haf := cI_hr h TT
          have h00 : SS.1 0 = 0 := (fr.1 0 (by decide)).trans (show upd (upd M 0 0) 63 0 0 = 0 from (pk_un (by decide)).trans pk_us)
          have hq : cq (M, A, L) (SS.1, SS.2, L) := ⟨fun j hj => by show SS.1 j = M j; rw [fr.1 j (by omega)]; show upd (upd M 0 0) 63 0 j = M j; rw [pk_un (by omega), pk_un (by omega)], fun k hk => fr.2 k (by omega), rfl⟩
          rcases key.1 with ⟨z, -⟩ | ⟨st, bt, -, -, -, r61, r62, r3, r4, r5⟩
          · rw [e63] at z
            have z2 : nI (ck_pc s) = nI 0 := z
            have := (nI_eq (a := ck_pc s) (b := 0) (by omega) (by decide)).mp z2
            omega
          · rcases (show w = 0 ∨ w = 1 ∨ ∃ j, w = j + 2 from by
              by_cases w0 : w = 0
              · exact Or.inl w0
              · by_cases w2 : w = 1
                · exact Or.inr (Or.inl w2)
                · exact Or.inr (Or.inr ⟨w - 2, by omega⟩)) with w0 | w0 | ⟨j, w0⟩
            · have hcc := c0 w0
              rw [r3.trans r61.symm] at hcc
              exact Or.inl (cSt_w (M, A, L) (by decide) (by decide) (by omega) (by omega) (by omega) hcc (Nat.le_refl _) haf (SS.1, SS.2, L) h00 hq (m0 w0))
            · have hcc := c1 w0
              rw [r4.trans r62.symm] at hcc
              exact Or.inl (cSt_w (M, A, L) (by decide) (by decide) (by omega) (by omega) (by omega) hcc (Nat.le_refl _) haf (SS.1, SS.2, L) h00 hq (m1 w0))
            · have hcc := c2 j w0
              rw [r5 j (by omega)] at hcc
              exact Or.inl (cSt_w (M, A, L) (by decide) (by decide) (by omega) (by omega) (by omega) hcc (Nat.le_refl _) haf (SS.1, SS.2, L) h00 hq (m2 j w0))
        · exact cSs_1 (cSx_q (by decide) (by decide) (Or.inl rfl) (ct_X10_round_c l G hst h64 hac (by rw [e1]; exact h4)) (fun R s2 => ct_X11_round_b4 l G h21 h1 ez e3 (by rw [e2]; exact h4)))
      · have hac : cx_ac (nI s) (K 7) 6 = 0 := by
          rw [h7]
          exact (ac 6 (by decide)).trans (if_neg h3)
        exact cSs_1 (cSx_q (by decide) (by decide) (Or.inl rfl) (ct_X10_round_b l G hst h64 hac) (fun R s2 => ct_X11_round_b3 l G h21 h1 ez (fun z => h3 (by
          have z2 := z.2
          rw [bN] at z2
          exact (nI_leI (a := ck_pc s) (b := 6) (by omega) (by decide)).mp z2))))
    · obtain ⟨ez, ac⟩ := S2 h2
      have hac : cx_ac (nI s) (K 7) 6 = 0 := by rw [h7]; exact ac 6
      exact cSs_1 (cSx_q (by decide) (by decide) (Or.inl rfl) (ct_X10_round_b l G hst h64 hac) (fun R s2 => ct_X11_round_b2 l G h21 h1 ez))
  · exact cSs_1 (cSx_q (by decide) (by decide) (Or.inl rfl) (ct_X10_round_b l G hst h64 (cl_neg h1)) (fun R s2 => ct_X11_round_b1 l G h21 h1))
/-- a new block at sz for the spare works or the notes -/
theorem cR_B.add {bl : Nat → Nat} {cl sz s9 p0 : Nat} (h : cR_B bl cl sz) (hp0 : 16 ≤ p0 ∧ p0 < 18) (h9 : sz + cR_len p0 ≤ s9) : cR_B (fun p => if p = p0 then sz else bl p) cl s9 := by
  obtain ⟨b0, b1, b2, b3⟩ := h
  refine ⟨by omega, fun p hp hne => ?_, fun p q hp hq hpq h1 h2 => ?_, fun i hi => ?_⟩
  · dsimp only at hne ⊢
    by_cases e : p = p0
    · rw [if_pos e, e]
      exact ⟨b0, h9⟩
    · rw [if_neg e] at hne ⊢
      have := b1 p hp hne
      omega
  · dsimp only at h1 h2 ⊢
    by_cases e : p = p0
    · have e2 : ¬ q = p0 := fun z => hpq (e.trans z.symm)
      rw [if_neg e2] at h2
      rw [if_pos e, if_neg e2]
      exact Or.inr (b1 q hq h2).2
    · rw [if_neg e] at h1
      by_cases e2 : q = p0
      · rw [if_neg e, if_pos e2]
        exact Or.inl (b1 p hp h1).2
      · rw [if_neg e2] at h2
        rw [if_neg e, if_neg e2]
        exact b2 p q hp hq hpq h1 h2
  · dsimp only
    rw [if_neg (by omega), if_neg (by omega)]
    exact b3 i hi
/-- the class's world behind a plan -/
theorem cI_pl {P P2 : kx_P} {sz : Nat} {M : Nat → Int32} {A : Nat → Nat → Int32} {L : Nat → Nat → Int64} {cl mi se : Nat} {bl bl1 : Nat → Nat} {nt s9 : Nat} {F2 NU2 WS2 N2 : Nat → Int32} (h : cI P sz (M, A, L) cl mi se bl)
    (e81 : P2 81 = kO 4 (kf (cr4 (.ref nt)) F2)) (e7 : F2 7 = nI (se + 1)) (e82 : P2 82 = kI 0 4 NU2) (e83 : P2 83 = kI 0 4 WS2) (ent : P2 nt = kI 0 39973 N2) (hN2 : ∀ i, i < 39973 → ∃ e : Nat, N2 i = nI e ∧ e < 64 * (se + 2))
    (o : ∀ n, ¬ n = 81 → ¬ n = 82 → ¬ n = 83 → ¬ n = nt → P2 n = P n) (hnt : 144 ≤ nt) (hb1 : bl1 17 = nt) (hbo : ∀ p, ¬ p = 17 → bl1 p = bl p) (hs9 : sz ≤ s9) (hB : cR_B bl1 cl s9) : cR_af P P2 (M, A, L) cl mi (se + 1) s9 bl1 := by
  obtain ⟨sd, hm, hst, ⟨hB0, hc, hsp, hno, hnn⟩, -⟩ := h
  have hcl : cl ≤ 8 := hm.2.2.1
  have hn0 : ¬ bl1 17 = 0 := by omega
  refine ⟨sd, hm, ?_, ⟨hB, fun i hi => ?_, fun h0 => ?_, fun h0 => ?_, fun n hn => ?_⟩, fun n hn => o n (by omega) (by omega) (by omega) (by omega)⟩
  · obtain ⟨p64, p65, p66, p67, p68, p69, p70, p71, p72, p76, p77, p78, p79, p80, p81, p82, p83, p84, p85, p89, p90, p1, p2⟩ := id hst
    have q : ∀ n, n < 93 → (¬ n = 81 ∧ ¬ n = 82 ∧ ¬ n = 83) → P2 n = P n := fun n h1 h2 => o n h2.1 h2.2.1 h2.2.2 (by omega)
    have eb : (fun i => if i < cl then some (bl1 (8 + i)) else none) = (fun i => if i < cl then some (bl (8 + i)) else none) := by
      funext i
      by_cases hi : i < cl
      · rw [if_pos hi, if_pos hi, hbo (8 + i) (by omega)]
      · rw [if_neg hi, if_neg hi]
    unfold cR_st
    unfold cx_SR at p72 ⊢
    rw [eb, hbo 16 (by omega), hb1, q 64 (by omega) (by omega), q 65 (by omega) (by omega), q 66 (by omega) (by omega), q 67 (by omega) (by omega), q 68 (by omega) (by omega), q 69 (by omega) (by omega), q 70 (by omega) (by omega), q 71 (by omega) (by omega), q 72 (by omega) (by omega), q 73 (by omega) (by omega), q 74 (by omega) (by omega), q 75 (by omega) (by omega), q 76 (by omega) (by omega), q 77 (by omega) (by omega), q 78 (by omega) (by omega), q 79 (by omega) (by omega), q 80 (by omega) (by omega), q 84 (by omega) (by omega), q 85 (by omega) (by omega), q 86 (by omega) (by omega), q 87 (by omega) (by omega), q 88 (by omega) (by omega), q 89 (by omega) (by omega), q 90 (by omega) (by omega), q 91 (by omega) (by omega), q 92 (by omega) (by omega), q 1 (by omega) (by omega), q 2 (by omega) (by omega)]
    have esv : cR_sv nt = .ref nt := by unfold cR_sv; rw [if_neg (by omega)]
    exact ⟨p64, p65, p66, p67, p68, p69, p70, p71, p72, p76, p77, p78, p79, p80, ⟨F2, by rw [esv]; exact e81, e7⟩, ⟨_, e82⟩, ⟨_, e83⟩, p84, p85, p89, p90, p1, p2⟩
  · have hw := hB.w hcl hi
    have hk := hB.c hcl hi
    have d1 := hB.nw hcl hi hn0
    have d2 := hB.nc hcl hi hn0
    rw [hb1] at d1 d2
    have e1 := hbo i (by omega)
    have e2 := hbo (8 + i) (by omega)
    rw [e1] at hw d1 ⊢
    rw [e2] at hk d2 ⊢
    exact cR_c_fr (hc i hi) (hm.2.2.2.2.2.2.2.2.2.2.2.2.1 i hi).1.1 (fun n hn => o n (by omega) (by omega) (by omega) (by omega)) (cR_ag.rf A i) rfl
  · have d1 := hB.s h0
    have d2 := hB.sn h0 hn0
    rw [hb1] at d2
    have e1 := hbo 16 (by omega)
    rw [e1] at h0 d1 d2 ⊢
    obtain ⟨V, T, Q, Fo, St, S, hw⟩ := hsp h0
    exact ⟨V, T, Q, Fo, St, S, cR_w_fr hw (fun n a b => o n (by omega) (by omega) (by omega) (by omega))⟩
  · rw [hb1]
    exact ⟨N2, ent, hN2⟩
  · have d1 := hB.n hn0
    rw [hb1] at d1
    have d0 := hB0.1
    rw [o n (by omega) (by omega) (by omega) (by omega)]
    exact hnn n (by omega)
theorem cs_plan (l : Launch) (G : kx_G) (hst : l.stackTraces = false) {P : kx_P} {sz : Nat} {M : Nat → Int32} {A : Nat → Nat → Int32} {L : Nat → Nat → Int64} {cl mi se : Nat} {bl : Nat → Nat} (h : cI P sz (M, A, L) cl mi se bl) (hse : se ≤ 999) (x y z w : Int32) : cSs l G sX10_plan sX11_plan [.int x, .int y, .int z, .int w] [.int x, .int y, .int z, .int w] P sz (M, A, L) se bl cS_A := by
  obtain ⟨K, h64, h69, h7, hcl, k2, k5, k10, k11, h21⟩ := cI_k h
  obtain ⟨sd, hm, ⟨-, -, -, -, -, -, -, -, -, -, -, -, -, -, ⟨Fp, p81, f7⟩, ⟨NU, p82⟩, ⟨WS, p83⟩, -, -, -, -, p1, p2⟩, ⟨hB, -, -, hno, hnn⟩, -⟩ := id h
  have f7 : Fp 7 = nI se := f7
  obtain ⟨CC, VV, hCS, hCV, hp, hg⟩ := cI_CS h
  obtain ⟨lf, run, hlr⟩ := cI_lr hg hCV
  by_cases h1 : 0 < x
  · obtain ⟨s, hs1, s31, rfl⟩ := cl_pos h1
    obtain ⟨S1, S2⟩ := cl_S hcl hs1 s31
    by_cases h2 : s < 2 ^ cl
    · obtain ⟨s256, ez, bc, bN, q1, q8, ac⟩ := S1 h2
      by_cases h3 : ck_pc s ≤ 4
      · have hac : cx_ac (nI s) (K 7) 4 = 1 := by
          rw [h7]
          exact (ac 4 (by decide)).trans (if_pos h3)
        have e3 : ck_bitsN (nI s) 8 ≤ 4 := by
          rw [bN]
          exact (nI_leI (a := ck_pc s) (b := 4) (by omega) (by decide)).mpr h3
        by_cases h4 : 1 ≤ y ∧ y ≤ 10
        · by_cases h5 : 1 ≤ z ∧ z ≤ 2
          · have hz : z = 1 ∨ z = 2 := by
              obtain ⟨k, k1, rfl⟩ := nI_of3 (n := 2) (by decide) (Int32.le_trans (by decide) h5.1) h5.2
              have := (nI_leI (a := 1) (b := k) (by decide) (by omega)).mp h5.1
              rcases (show k = 1 ∨ k = 2 by omega) with rfl | rfl
              · exact Or.inl rfl
              · exact Or.inr rfl
            by_cases h6 : 0 ≤ w ∧ w ≤ y
            · obtain ⟨days, d1, rfl⟩ := nI_of3 (n := 10) (by decide) (Int32.le_trans (by decide) h4.1) h4.2
              have d2 := (nI_leI (a := 1) (b := days) (by decide) (by omega)).mp h4.1
              obtain ⟨many, m1, m2, rfl⟩ : ∃ many : Nat, 1 ≤ many ∧ many ≤ 2 ∧ z = nI many := by
                rcases hz with rfl | rfl
                · exact ⟨1, by decide, by decide, rfl⟩
                · exact ⟨2, by decide, by decide, rfl⟩
              obtain ⟨wh, w1, rfl⟩ := nI_of3 (n := days) (by omega) h6.1 h6.2
              have hlr2 : ∀ i, i < cl → CC i 6 = nI (lf i) ∧ lf i ≤ 44640 ∧ VV i 0 = nI (run i) ∧ 1 ≤ run i ∧ run i ≤ 31 := fun i hi => by
                obtain ⟨a1, a2, a3, a4, a5, a6, a7⟩ := hlr i hi
                exact ⟨a1, by omega, a3, a7, a6⟩
              have epl := cx_plv_eq (A := A) (NU := NU) (WS := WS) (lf := lf) (run := run) hcl h2 h3 ⟨d2, d1⟩ ⟨m1, m2⟩ w1 (fun i hi => by
                obtain ⟨a1, a2, a3, a4, a5, a6, a7⟩ := hlr i hi
                exact ⟨a2, by omega, a4, a7, a6⟩)
              have hck : ck_lr A cl := fun c hc => by
                obtain ⟨a1, a2, a3, a4, a5, a6, a7⟩ := hlr c hc
                exact ⟨lf c, run c, a2, by omega, a4, a6⟩
              have hmo : ∀ (R : kx_P) (s2 : Nat), kx_Mn l G sX11_plan 16 0 0 [.ref 93, .int (nI s), .int (nI days), .int (nI many), .int (nI wh)] (mW M A L R) s2 (fun r P3 s3 => r = some (.int (ck_plv A cl s days many wh)) ∧ s3 = s2 ∧ ∃ S2 : ck_S, P3 = ck_W S2 R ∧ S2.1 0 = 0 ∧ cq (M, A, L) S2) := fun R s2 => (ct_X11_plan_t l G h21 hcl hs1 h2 h3 ⟨d2, d1⟩ ⟨m1, m2⟩ w1 hck).imp (fun r P3 s3 ⟨a, b, F2, c⟩ => ⟨b, a, (upd (upd (upd (upd M 0 0) 68 (nI (ck_pc s))) 66 (nI days)) 67 (nI many), va_up (va_up A 128 (ck_pcl (A 128) s cl)) 129 F2, L), c, by show upd (upd (upd (upd M 0 0) 68 (nI (ck_pc s))) 66 (nI days)) 67 (nI many) 0 = 0; rw [pk_un (by decide), pk_un (by decide), pk_un (by decide), pk_us], fun j hj => by show upd (upd (upd (upd M 0 0) 68 (nI (ck_pc s))) 66 (nI days)) 67 (nI many) j = M j; rw [pk_un (by omega), pk_un (by omega), pk_un (by omega), pk_un (by omega)], fun k hk => by show va_up (va_up A 128 (ck_pcl (A 128) s cl)) 129 F2 k = A k; rw [va_upn (by omega), va_upn (by omega)], rfl⟩)
              have hmn : many = 1 ∨ many = 2 := by omega
              have hF7 : cp_Fc Fp days many se lf s 8 7 = nI (se + 1) := by
                unfold cp_Fc
                rw [pk_un (by decide), pk_un (by decide)]
                unfold cp_F0
                first | exact pk_us | (repeat (first | rw [pk_us] | rw [pk_un (by decide)])) | simp [upd]
              by_cases hb : bl 17 = 0
              · have p81 : P 81 = kO 4 (kf (cr4 .null) Fp) := by rw [hb] at p81; exact p81
                have hsz : 144 ≤ sz := hB.1
                have hfr : P sz = none := hnn sz (Nat.le_refl _)
                have fin : ∀ {wi : Int32} {v : Value}, wi = nI wh → v = .int (cx_plv NU WS run lf s days many wh) → kx_Mn l G sX10_plan 30 1 39973 [.ref 64, .int (nI s), .int (nI days), .int (nI many), .int wi] P sz (fun r P2 s2 => r = some v ∧ (∃ N2, P2 = kx_set (jW (kx_set P sz (kI 0 39973 (fun _ => 0))) (.ref sz) (cp_Fc Fp days many se lf s 8) (ck_pcl NU s 8) (cp_wsl WS run s 8)) sz (kI 0 39973 N2) ∧ ∀ i, i < 39973 → ∃ e : Nat, N2 i = nI e ∧ e < 64 * (se + 2)) ∧ s2 = (sz + 1)) → cSs l G sX10_plan sX11_plan [.int (nI s), .int (nI days), .int (nI many), .int (nI wh)] [.int (nI s), .int (nI days), .int (nI many), .int (nI wh)] P sz (M, A, L) se bl cS_A := by
                  rintro wi v rfl rfl hcc
                  rw [epl] at hcc
                  refine Or.inl ⟨_, (M, A, L), 30, 16, 1, 39973, cl, mi, se + 1, fun p => if p = 17 then sz else bl p, cvT_i (by decide), by decide, by decide, by decide, ?_, by omega, hcc.imp (fun r P2 s2 ⟨a, ⟨N2, b, b2⟩, c⟩ => ⟨a, by omega, ?_⟩), hmo⟩
                  · have e1 : cro bl = 40000 := by unfold cro; rw [if_pos hb]
                    have e2 : cro (fun p => if p = 17 then sz else bl p) = 0 := by unfold cro; rw [if_neg (show ¬ (if 17 = 17 then sz else bl 17) = 0 by rw [if_pos rfl]; omega)]
                    omega
                  · rw [c, b]
                    refine cI_pl (nt := sz) (F2 := cp_Fc Fp days many se lf s 8) (NU2 := ck_pcl NU s 8) (WS2 := cp_wsl WS run s 8) (N2 := N2) h ?_ hF7 ?_ ?_ (ks_eq _ _ _) b2 ?_ hsz (if_pos rfl) (fun p hp => if_neg hp) (by omega) (hB.add ⟨by decide, by decide⟩ (Nat.le_refl _))
                    · rw [ks_ne (by omega)]; exact jW_81
                    · rw [ks_ne (by omega)]; exact jW_82
                    · rw [ks_ne (by omega)]; exact jW_83
                    · intro n n1 n2 n3 n4
                      rw [ks_ne n4, jW_o n1 n2 n3, ks_ne n4]
                match wh, w1 with
                | 0, _ => exact fin rfl rfl (ct_X10_plan_n0 l G h64 p82 p83 p2 hcl hCS hlr2 h2 h3 ⟨d2, d1⟩ hmn f7 hse hac p81 hfr hsz)
                | k + 1, hk => exact fin rfl rfl (ct_X10_plan_ns l G h64 p82 p83 p2 hcl hCS hlr2 h2 h3 ⟨d2, d1⟩ hmn f7 hse hac p81 hfr hsz (wh := k) (by omega))
              · obtain ⟨N, hN, hNe⟩ := hno hb
                have p81 : P 81 = kO 4 (kf (cr4 (.ref (bl 17))) Fp) := by unfold cR_sv at p81; rw [if_neg hb] at p81; exact p81
                have hnt : 144 ≤ bl 17 := (hB.n hb).1
                have fin : ∀ {wi : Int32} {v : Value}, wi = nI wh → v = .int (cx_plv NU WS run lf s days many wh) → kx_Mn l G sX10_plan 30 0 0 [.ref 64, .int (nI s), .int (nI days), .int (nI many), .int wi] P sz (fun r P2 s2 => r = some v ∧ (∃ N2, P2 = kx_set (jW P (.ref (bl 17)) (cp_Fc Fp days many se lf s 8) (ck_pcl NU s 8) (cp_wsl WS run s 8)) (bl 17) (kI 0 39973 N2) ∧ ∀ i, i < 39973 → ∃ e : Nat, N2 i = nI e ∧ e < 64 * (se + 2)) ∧ s2 = sz) → cSs l G sX10_plan sX11_plan [.int (nI s), .int (nI days), .int (nI many), .int (nI wh)] [.int (nI s), .int (nI days), .int (nI many), .int (nI wh)] P sz (M, A, L) se bl cS_A := by
                  rintro wi v rfl rfl hcc
                  rw [epl] at hcc
                  refine Or.inl ⟨_, (M, A, L), 30, 16, 0, 0, cl, mi, se + 1, bl, cvT_i (by decide), by decide, by decide, by decide, by omega, by omega, hcc.imp (fun r P2 s2 ⟨a, ⟨N2, b, b2⟩, c⟩ => ⟨a, by omega, ?_⟩), hmo⟩
                  rw [c, b]
                  refine cI_pl (nt := bl 17) (F2 := cp_Fc Fp days many se lf s 8) (NU2 := ck_pcl NU s 8) (WS2 := cp_wsl WS run s 8) (N2 := N2) h ?_ hF7 ?_ ?_ (ks_eq _ _ _) b2 ?_ hnt rfl (fun p hp => rfl) (Nat.le_refl _) hB
                  · rw [ks_ne (by omega)]; exact jW_81
                  · rw [ks_ne (by omega)]; exact jW_82
                  · rw [ks_ne (by omega)]; exact jW_83
                  · intro n n1 n2 n3 n4
                    rw [ks_ne n4, jW_o n1 n2 n3]
                match wh, w1 with
                | 0, _ => exact fin rfl rfl (ct_X10_plan_r0 l G h64 p82 p83 p2 hcl hCS hlr2 h2 h3 ⟨d2, d1⟩ hmn f7 hse hac p81 hnt hN hNe)
                | k + 1, hk => exact fin rfl rfl (ct_X10_plan_rs l G h64 p82 p83 p2 hcl hCS hlr2 h2 h3 ⟨d2, d1⟩ hmn f7 hse hac p81 hnt hN hNe (wh := k) (by omega))
            · exact cSs_1 (cSx_q (by decide) (by decide) (Or.inl rfl) (ct_X10_plan_c l G hst h64 hac h4.1 h4.2 (fun q => h6 q.2)) (fun R s2 => ct_X11_plan_b6 l G h21 h1 ez e3 h4 h5 h6))
          · have hz : ¬ (z = 1 ∨ z = 2) := fun q => h5 (by
              rcases q with rfl | rfl
              · exact ⟨by decide, by decide⟩
              · exact ⟨by decide, by decide⟩)
            exact cSs_1 (cSx_q (by decide) (by decide) (Or.inl rfl) (ct_X10_plan_c l G hst h64 hac h4.1 h4.2 (fun q => hz q.1)) (fun R s2 => ct_X11_plan_b5 l G h21 h1 ez e3 h4 h5))
        · exact cSs_1 (cSx_q (by decide) (by decide) (Or.inl rfl) (ct_X10_plan_b l G hst h64 (cx_ac_b _ _ _) (fun q => h4 q.2)) (fun R s2 => ct_X11_plan_b4 l G h21 h1 ez e3 h4))
      · have hac : cx_ac (nI s) (K 7) 4 = 0 := by
          rw [h7]
          exact (ac 4 (by decide)).trans (if_neg h3)
        exact cSs_1 (cSx_q (by decide) (by decide) (Or.inl rfl) (ct_X10_plan_b l G hst h64 (cx_ac_b _ _ _) (fun q => by rw [hac] at q; exact absurd q.1 (by decide))) (fun R s2 => ct_X11_plan_b3 l G h21 h1 ez (fun z => h3 (by
          rw [bN] at z
          exact (nI_leI (a := ck_pc s) (b := 4) (by omega) (by decide)).mp z))))
    · obtain ⟨ez, ac⟩ := S2 h2
      have hac : cx_ac (nI s) (K 7) 4 = 0 := by rw [h7]; exact ac 4
      exact cSs_1 (cSx_q (by decide) (by decide) (Or.inl rfl) (ct_X10_plan_b l G hst h64 (cx_ac_b _ _ _) (fun q => by rw [hac] at q; exact absurd q.1 (by decide))) (fun R s2 => ct_X11_plan_b2 l G h21 h1 ez))
  · exact cSs_1 (cSx_q (by decide) (by decide) (Or.inl rfl) (ct_X10_plan_b l G hst h64 (cx_ac_b _ _ _) (fun q => by rw [cl_neg h1] at q; exact absurd q.1 (by decide))) (fun R s2 => ct_X11_plan_b1 l G h21 h1))

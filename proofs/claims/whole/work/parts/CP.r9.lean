/-! EACH CALL, both ways: told, mend, hands, wait, foretold -/
/-- the class's world is as it was; the reference leaves scratch -/
theorem cSt_e {l : Launch} {G : kx_G} {yc ym : kx_S} {Ac Am : List Value} {P : kx_P} {sz : Nat} {M : Nat → Int32} {A : Nat → Nat → Int32} {L : Nat → Nat → Int64} {cl mi se : Nat} {bl : Nat → Nat} {v : Value} {dc dm : Nat} (h : cI P sz (M, A, L) cl mi se bl)
    (hc : kx_M l G yc dc 0 0 (.ref 64 :: Ac) P sz (some v) P sz) (hm : ∀ (R : kx_P) (s2 : Nat), ∃ S, kx_M l G ym dm 0 0 (.ref 93 :: Am) (mW M A L R) s2 (some v) (mW (upd M 0 0) (va_up A 123 S) L R) s2) (hdc : dc ≤ 50 := by decide) (hdm : dm ≤ 50 := by decide) (hT : cvT ym v := by first | exact cvT_i (by decide) | exact cvT_i (fun h => by cases h) | exact cvT_l rfl) : cSt l G yc ym Ac Am P sz (M, A, L) se bl :=
  ⟨v, (M, A, L), dc, dm, 0, 0, cl, mi, se, bl, hT, hdc, hdm, by omega, by omega, by omega, hc.n.imp (fun r P2 s2 ⟨a, b, c⟩ => ⟨a, by omega, by rw [b, c]; exact h.af⟩),
    fun R s2 => by
      obtain ⟨S, hS⟩ := hm R s2
      exact hS.n.imp (fun r P3 s3 ⟨a, b, c⟩ => ⟨a, c, (upd M 0 0, va_up A 123 S, L), b, (show upd M 0 0 0 = 0 from pk_us), (fun j hj => (show upd M 0 0 j = M j from pk_un (by omega))), (fun k hk => (show va_up A 123 S k = A k from va_upn (by omega))), rfl⟩)⟩
theorem cx_rack2 {A A1 : Nat → Nat → Int32} {i : Nat} {V T Q Fo St S C : Nat → Int32} (hv : cR_v A i V T Q Fo St) (hi : cR_i A i) (h0 : A 117 i = 0) (o : ∀ k, ¬ k = 111 → ¬ k = 112 → A1 k = A k) {x d m : Int32} (hd : d = A1 111 i) (hm : m = A1 112 i) :
    cx_sd V T (fun j => A 106 (400 * i + j)) (fun j => A 107 (400 * i + j)) S C (A 105 i).toNatClampNeg x d m = ck_cl (ck_rs A1 i x 0) := by
  obtain ⟨-, -, h12, -, hf⟩ := hv
  have hf := hf h0
  unfold cx_sd
  rw [if_pos (h12.trans h0), cx_cl_eq]
  unfold ck_rs
  rw [hd, hm, o 105 (by decide) (by decide), o 106 (by decide) (by decide), o 107 (by decide) (by decide)]
  rw [ck_rkS_in _ hf.2.2.2 0 (ck_ht_pos (hi.2.2.2.2.2.2.1 h0) hf.2.2.2)]
theorem cI_0 {P : kx_P} {sz : Nat} {M : Nat → Int32} {A : Nat → Nat → Int32} {L : Nat → Nat → Int64} {cl mi se : Nat} {bl : Nat → Nat} (h : cI P sz (M, A, L) cl mi se bl) : ∃ sd, cR_st P (upd M 0 0) A cl se bl ∧ cR_dy P A L cl se sz bl (fun _ => mi) ∧ cR_m (upd M 0 0) A L cl mi sd := by
  obtain ⟨sd, hm, hst, hdy, -⟩ := h
  have e : cR_eq M (upd M 0 0) A A L L := ⟨fun j hj => pk_un (by omega), fun _ _ => rfl, rfl⟩
  exact ⟨sd, hst.fr (fun _ _ => rfl) e, hdy, hm.eq e⟩
theorem ck_mns_0 {S : ck_S} {cl j : Nat} (h : j = 0) : ∀ n, (ck_mns S cl n).1 j = S.1 j
  | 0 => rfl
  | n + 1 => by
    have ih := ck_mns_0 (S := S) (cl := cl) h n
    rw [← ck_mns_s]
    unfold ck_mn
    show upd _ 1 _ j = _
    rw [pk_un (by omega), ck_gs_M (by omega) (by omega) (by omega) (by omega) (by omega)]
    exact ih
theorem cR_m.iv {M : Nat → Int32} {A : Nat → Nat → Int32} {L : Nat → Nat → Int64} {cl mi sd : Nat} (h : cR_m M A L cl mi sd) : ck_iv cl sd (M, A, L) ∧ sd + 8 * 100000 < 2 ^ 29 := by
  obtain ⟨-, -, -, -, h4, -, -, -, h8, h9, h10, -, h12, -⟩ := h
  exact ⟨⟨fun c hc => (h12 c hc).1, h8, sd, Nat.le_refl _, h9⟩, by omega⟩

theorem cs_told (l : Launch) (G : kx_G) (hst : l.stackTraces = false) {P : kx_P} {sz : Nat} {M : Nat → Int32} {A : Nat → Nat → Int32} {L : Nat → Nat → Int64} {cl mi se : Nat} {bl : Nat → Nat} (h : cI P sz (M, A, L) cl mi se bl) (x y : Int32) : cSs l G sX10_told sX11_told [.int x, .int y] [.int x, .int y] P sz (M, A, L) se bl cS_NA := by
  obtain ⟨K, h64, h69, h7, hcl, k2, k5, k10, k11, h21⟩ := cI_k h
  rcases cl_ix hcl h7 h21 x with ⟨c, hc, rfl⟩ | ⟨hx, hy⟩
  · obtain ⟨K', Al, V, T, Q, Fo, St, S1, C, Kp, -, -, -, -, H, hs, hq, hkq, hA, al0, al1, al3, hmi, h1, -, hv, hC, hkp, hg⟩ := cI_c h hc
    obtain ⟨⟨⟨g0, g110, gnn⟩, ⟨r1, r2, r3, r4, r15, r115, r108, r113⟩, gdl⟩, i1, i2, i109, i5, i117, i104, i105, i111, i112, i100, i114⟩ := id hg
    obtain ⟨C0, C1, C4, C5, C6, C7, C8, C9, C10⟩ := id hC
    have hB9 : 144 ≤ bl c ∧ 144 ≤ bl (8 + c) := by
      obtain ⟨sd8, hm8, -, ⟨hB8, -⟩, -⟩ := id h
      exact ⟨(hB8.w hcl hc).2.1, (hB8.c hcl hc).2.1⟩
    obtain ⟨dd, d1, d2, ed⟩ := i111
    obtain ⟨mm, m1, m2, em⟩ := i112
    have hda := ck_da_le (show mi / 1440 ≤ 69 by omega) (ck_feb_le (M 3))
    have hmo := ck_mo_le (mi / 1440) (ck_feb (M 3))
    have hdm := ct_dm (da := ck_da (mi / 1440) (ck_feb (M 3))) (mo := ck_mo (mi / 1440) (ck_feb (M 3))) d2 m2 (by omega) (by omega) ed em
    by_cases hy8 : 0 ≤ y ∧ y ≤ 8
    · obtain ⟨k, hk8, rfl⟩ := nI_of3 (n := 8) (by decide) hy8.1 hy8.2
      have hm9 := fun (R : kx_P) (s2 : Nat) => ct_X11_told_t l G (A := A) (L := L) (R := R) (sz := s2) h21 hcl hc h1 hmi gdl ⟨g0, g110, gnn⟩ hk8
      obtain ⟨a, ha, ea⟩ := id gdl
      obtain ⟨p, wm, h110, h103, hwm, hpw⟩ := id g110
      have hnx : ck_nx L c = a / 3600000000 + 1 := by unfold ck_nx; rw [ea, ck_tn_l (by omega)]
      match k, hk8 with
      | 0, _ =>
        have hcc := ct_X10_told_0 l G (sz := sz) h64 h69 h7 hcl hc H hs hq
        rw [C6] at hcc
        exact Or.inl (cSt_e h hcc hm9)
      | 1, _ =>
        have hcc := ct_X10_told_1 l G (sz := sz) h64 h69 h7 hcl hc H hs hq
        rw [C7] at hcc
        exact Or.inl (cSt_e h hcc hm9)
      | 2, _ =>
        have hcc := ct_X10_told_2 l G (sz := sz) h64 h69 h7 hcl hc H hs hq
        have e2 : (if V 12 = 0 then -1 else C 8) = (if A 117 c = 0 then -1 else A 110 c) := by
          rw [hv.2.2.1]
          by_cases h117 : A 117 c = 0
          · rw [if_pos h117, if_pos h117]
          · rw [if_neg h117, if_neg h117, C8 h117]
        rw [e2] at hcc
        exact Or.inl (cSt_e h hcc hm9)
      | 3, _ =>
        have hcc := ct_X10_told_3 l G (sz := sz) h64 h69 h7 hcl hc H hs hq
        rw [C4] at hcc
        exact Or.inl (cSt_e h hcc hm9)
      | 4, _ =>
        have hcc := ct_X10_told_4 l G (sz := sz) h64 h69 h7 hcl hc H hs hq
        rw [C5] at hcc
        exact Or.inl (cSt_e h hcc hm9)
      | 5, _ =>
        have hcc := ct_X10_told_5 l G (sz := sz) h64 h69 h7 hcl hc H hs hq
        rw [C6] at hcc
        exact Or.inl (cSt_e h hcc hm9)
      | 6, _ =>
        have hcc := ct_X10_told_6 l G (sz := sz) h64 h69 h7 hcl hc H hs hq al0 hmi
        have e6 : (if (if C 4 = nI (ck_da (mi / 1440) (ck_feb (Al 1))) then (if C 5 = nI (ck_mo (mi / 1440) (ck_feb (Al 1))) then 1 else 0) else 0) = (0 : Int32) then (0 : Int32) else 1) = (if 100 * A 112 c + A 111 c = nI (100 * ck_mo (mi / 1440) (ck_feb (M 3)) + ck_da (mi / 1440) (ck_feb (M 3))) then 1 else 0) := by
          rw [al1, C4, C5]
          by_cases he : 100 * A 112 c + A 111 c = nI (100 * ck_mo (mi / 1440) (ck_feb (M 3)) + ck_da (mi / 1440) (ck_feb (M 3)))
          · obtain ⟨z1, z2⟩ := hdm.mp he
            rw [if_pos he, if_pos z1, if_pos z2, if_neg (by decide)]
          · rw [if_neg he]
            by_cases z1 : A 111 c = nI (ck_da (mi / 1440) (ck_feb (M 3)))
            · rw [if_pos z1, if_neg (fun z2 => he (hdm.mpr ⟨z1, z2⟩)), if_pos rfl]
            · rw [if_neg z1, if_pos rfl]
        rw [e6] at hcc
        exact Or.inl (cSt_e h hcc hm9)
      | 7, _ =>
        by_cases h117 : A 117 c = 0
        · have hcc := ct_X10_told_7n l G (sz := sz) h64 h69 h7 hcl hc H hs hq (hv.2.2.1.trans h117)
          have e7 : ck_told M A L c mi 7 = -1 := by show (if A 117 c = 0 then -1 else if ck_sx A c (A 103 c).toNatClampNeg (ck_nx L c) (A 110 c).toNatClampNeg 24 0 = 0 then 0 else 1) = -1; rw [if_pos h117]
          rw [← e7] at hcc
          exact Or.inl (cSt_e h hcc hm9)
        · have h12 : ¬ V 12 = 0 := fun z => h117 (hv.2.2.1.symm.trans z)
          have hp := hpw h117
          have hT : ∀ j, j < wm → T j = A 104 (24 * c + j) := fun j hj => (hv.2.2.2.1 h117).2 j (by rw [h103, nI_clamp (by omega)]; exact hj)
          have hcc := ct_X10_told_7t l G (sz := sz) h64 h69 h7 hcl hc H hs hq h12 ((hv.2.2.2.1 h117).1.trans h103) ⟨by omega, hwm⟩ ea ha ((C8 h117).trans h110) hp
          have e7 : ck_told M A L c mi 7 = (if cx_sx T wm (a / 3600000000 + 1) p 24 0 = 0 then 0 else 1) := by
            show (if A 117 c = 0 then -1 else if ck_sx A c (A 103 c).toNatClampNeg (ck_nx L c) (A 110 c).toNatClampNeg 24 0 = 0 then 0 else 1) = _
            rw [if_neg h117, h103, h110, nI_clamp (by omega), nI_clamp (by omega), hnx, cx_sx_eq (by omega) hT]
          rw [← e7] at hcc
          exact Or.inl (cSt_e h hcc hm9)
      | 8, _ =>
        have hcc := ct_X10_told_8 l G (sz := sz) h64 h69 h7 hcl hc H hs hq (CN := fun j => A 106 (400 * c + j)) (NN := fun j => A 107 (400 * c + j)) (nn := (A 105 c).toNatClampNeg) (fun z => hv.2.2.2.2 (hv.2.2.1.symm.trans z)) ea ha
        have e8 : ck_told M A L c mi 8 = (if (a / 3600000000 + 1) % 24 = 0 then cx_sd V T (fun j => A 106 (400 * c + j)) (fun j => A 107 (400 * c + j)) S1 C (A 105 c).toNatClampNeg (nI ((a / 3600000000 + 1) % 24)) (cx_db V C (Al 1)) (cx_mb V C (Al 1)) else cx_sd V T (fun j => A 106 (400 * c + j)) (fun j => A 107 (400 * c + j)) S1 C (A 105 c).toNatClampNeg (nI ((a / 3600000000 + 1) % 24)) (C 4) (C 5)) := by
          show (if A 117 c = 0 then ck_cl (ck_cR (upd M 0 0) A c (ck_nx L c) 0) else A 104 (24 * c + (A 110 c).toNatClampNeg)) = _
          by_cases h117 : A 117 c = 0
          · rw [if_pos h117, hnx]
            unfold ck_cR ck_cA
            rw [show upd M 0 0 3 = M 3 from rfl]
            by_cases h24 : (a / 3600000000 + 1) % 24 = 0
            · rw [if_pos h24, if_pos h24]
              obtain ⟨z1, z2, -, -⟩ := cx_td_eq (A1 := A) (i := c) (V := V) (C := C) (lp := Al 1) hv.1.2.2.2.2.2.2.2.2.1 C4 C5 ⟨d1, d2⟩ ⟨m1, m2⟩ ed em
              rw [al1] at z1 z2
              refine (cx_rack2 hv hg.2 h117 (A1 := ck_nextA A c (ck_cal (A 102 (16 * c + 13)) (A 112 c) (M 3))) (fun k k1 k2 => ?_) ?_ ?_).symm
              · unfold ck_nextA
                split
                · rw [va_upn k1]
                · rw [va_upn k2, va_upn k1]
              · rw [al1, ← z1]; rfl
              · rw [al1, ← z2]; rfl
            · rw [if_neg h24, if_neg h24]
              exact (cx_rack2 hv hg.2 h117 (A1 := A) (fun _ _ _ => rfl) C4 C5).symm
          · have hp9 := hpw h117
            rw [if_neg h117, h110, nI_clamp (by omega)]
            have h12 : ¬ V 12 = 0 := fun z => h117 (hv.2.2.1.symm.trans z)
            have e9 : ∀ x d m, cx_sd V T (fun j => A 106 (400 * c + j)) (fun j => A 107 (400 * c + j)) S1 C (A 105 c).toNatClampNeg x d m = A 104 (24 * c + p) := fun x d m => by
              unfold cx_sd
              rw [if_neg h12, C8 h117, h110]
              exact cx_wheel_eq hv h117 h103 hwm (hpw h117)
            rw [e9, e9, ite_self]
        rw [← e8] at hcc
        generalize (if (a / 3600000000 + 1) % 24 = 0 then cx_sk V (fun j => A 106 (400 * c + j)) (fun j => A 107 (400 * c + j)) S1 (A 105 c).toNatClampNeg (nI ((a / 3600000000 + 1) % 24)) (cx_db V C (Al 1)) (cx_mb V C (Al 1)) else cx_sk V (fun j => A 106 (400 * c + j)) (fun j => A 107 (400 * c + j)) S1 (A 105 c).toNatClampNeg (nI ((a / 3600000000 + 1) % 24)) (C 4) (C 5)) = S2 at hcc
        have haf := cI_clk (M2 := M) (A2 := A) (L2 := L) (S2 := S2) (C2 := C) h hc hq (cI_w6 H hs) hkq hv hkp rfl (fun _ _ => rfl) (fun _ _ _ _ => rfl) (fun _ _ _ _ => rfl) (fun _ _ => rfl) rfl hC hg
        exact Or.inl ⟨_, (M, A, L), 7, 4, 0, 0, cl, mi, se, bl, cvT_i (by decide), by decide, by decide, by omega, by omega, by omega, hcc.n.imp (fun r P2 s2 ⟨z1, z2, z3⟩ => ⟨z1, by omega, by rw [z2, z3]; exact haf⟩), fun R s2 => by
          obtain ⟨S, hS⟩ := hm9 R s2
          exact hS.n.imp (fun r P3 s3 ⟨z1, z2, z3⟩ => ⟨z1, z3, (upd M 0 0, va_up A 123 S, L), z2, (show upd M 0 0 0 = 0 from pk_us), (fun j hj => (show upd M 0 0 j = M j from pk_un (by omega))), (fun k hk => (show va_up A 123 S k = A k from va_upn (by omega))), rfl⟩)⟩
    · exact cSs_2 (cSx_q (by decide) (by decide) (Or.inl rfl) (ct_X10_told_b l G hst h64 h69 h7 hcl hc hy8) (fun R s2 => ct_X11_told_b l G h21 hcl hc hy8))
  · exact cSs_1 (cSx_q (by decide) (by decide) (Or.inl rfl) (ct_X10_told_f l G hst h64 hx) (fun R s2 => ct_X11_told_f l G hy))

theorem cs_mend (l : Launch) (G : kx_G) (hst : l.stackTraces = false) {P : kx_P} {sz : Nat} {M : Nat → Int32} {A : Nat → Nat → Int32} {L : Nat → Nat → Int64} {cl mi se : Nat} {bl : Nat → Nat} (h : cI P sz (M, A, L) cl mi se bl) (x y : Int32) : cSs l G sX10_mend sX11_mend [.int x, .int y] [.int x, .int y] P sz (M, A, L) se bl cS_NA := by
  obtain ⟨K, h64, h69, h7, hcl, k2, k5, k10, k11, h21⟩ := cI_k h
  rcases cl_ix hcl h7 h21 x with ⟨c, hc, rfl⟩ | ⟨hx, hy⟩
  · obtain ⟨K', Al, V, T, Q, Fo, St, S1, C, Kp, -, -, -, -, H, hs, hq, hkq, hA, al0, al1, al3, hmi, h1, -, hv, hC, hkp, hg⟩ := cI_c h hc
    obtain ⟨⟨⟨g0, g110, gnn⟩, ⟨r1, r2, r3, r4, r15, r115, r108, r113⟩, gdl⟩, i1, i2, i109, i5, i117, i104, i105, i111, i112, i100, i114⟩ := id hg
    obtain ⟨C0, C1, C4, C5, C6, C7, C8, C9, C10⟩ := id hC
    have hB9 : 144 ≤ bl c ∧ 144 ≤ bl (8 + c) := by
      obtain ⟨sd8, hm8, -, ⟨hB8, -⟩, -⟩ := id h
      exact ⟨(hB8.w hcl hc).2.1, (hB8.c hcl hc).2.1⟩
    by_cases hy2 : 0 ≤ y ∧ y ≤ 2
    · obtain ⟨k, hk2, rfl⟩ := nI_of3 (n := 2) (by decide) hy2.1 hy2.2
      obtain ⟨a, ha, ea⟩ := id gdl
      obtain ⟨p, wm, h110, h103, hwm, hpw⟩ := id g110
      by_cases h117 : A 117 c = 0
      · have h12 := hv.2.2.1.trans h117
        match k, hk2 with
        | 0, _ => exact Or.inl (cSt_r h (ct_X10_mend_n0 l G h64 h69 h7 hcl hc H hs hq h12) (fun R s2 => ct_X11_mend_0r l G h21 hcl hc h117))
        | 1, _ => exact Or.inl (cSt_r h (ct_X10_mend_n1 l G h64 h69 h7 hcl hc H hs hq h12) (fun R s2 => ct_X11_mend_1r l G h21 hcl hc h117))
        | 2, _ => exact Or.inl (cSt_r h (ct_X10_mend_n2 l G h64 h69 h7 hcl hc H hs hq h12) (fun R s2 => ct_X11_mend_2r l G h21 hcl hc h117))
      · have h12 : ¬ V 12 = 0 := fun z => h117 (hv.2.2.1.symm.trans z)
        have hp := hpw h117
        have h14 : V 14 = nI wm := (hv.2.2.2.1 h117).1.trans h103
        have c8 : C 8 = nI p := (C8 h117).trans h110
        have hT : ∀ j, j < wm → T j = A 104 (24 * c + j) := fun j hj => (hv.2.2.2.1 h117).2 j (by rw [h103, nI_clamp (by omega)]; exact hj)
        have hw1 : 1 ≤ wm ∧ wm ≤ 24 := ⟨by omega, hwm⟩
        have hq0 : ∀ rg cost t l, cq (M, A, L) (ck_fmM (upd M 0 0) rg cost t l, A, L) ∧ ck_fmM (upd M 0 0) rg cost t l 0 = 0 := fun rg cost t l => by
          have e : ∀ j, ¬ j = 0 → ¬ j = 53 → ¬ j = 54 → ¬ j = 55 → ck_fmM (upd M 0 0) rg cost t l j = M j := fun j j0 j1 j2 j3 => by
            unfold ck_fmM
            try dsimp only
            repeat' split
            all_goals (repeat rw [pk_un (by assumption)])
          refine ⟨⟨fun j hj => e j (by omega) (by omega) (by omega) (by omega), fun _ _ => rfl, rfl⟩, ?_⟩
          unfold ck_fmM
          try dsimp only
          repeat' split
          all_goals rfl
        rcases cx_md_eq (M := upd M 0 0) (A := A) (T := T) (c := c) (wm := wm) (nx := a / 3600000000 + 1) (p := p) hw1 hp hT rfl (A 109 c) with ⟨q1, q2⟩ | ⟨q1, q2, lf, q3, q4, q5, q6⟩
        · match k, hk2 with
          | 0, _ => exact Or.inl (cSt_r h (ct_X10_mend_z0 l G h64 h69 h7 hcl hc H hs hq h12 h14 hw1 ea ha c8 hp q2 rfl (Or.inl rfl)) (fun R s2 => ct_X11_mend_0n l G h21 hcl hc h117 h110 h103 hp hwm ea ha q1))
          | 1, _ => exact Or.inl (cSt_r h (ct_X10_mend_z1 l G h64 h69 h7 hcl hc H hs hq h12 h14 hw1 ea ha c8 hp q2 rfl (Or.inl rfl)) (fun R s2 => ct_X11_mend_1n l G h21 hcl hc h117 h110 h103 hp hwm ea ha q1))
          | 2, _ => exact Or.inl (cSt_r h (ct_X10_mend_z2 l G h64 h69 h7 hcl hc H hs hq h12 h14 hw1 ea ha c8 hp q2 rfl (Or.inl rfl)) (fun R s2 => ct_X11_mend_2n l G h21 hcl hc h117 h110 h103 hp hwm ea ha q1))
        · generalize hT0 : ck_mt A c wm (a / 3600000000 + 1) p wm 0 = T0 at q1 q2 q5 q6
          match k, hk2 with
          | 0, _ =>
            have hcc := ct_X10_mend_t0 l G (sz := sz) h64 h69 h7 hcl hc H hs hq h12 h14 hw1 ea ha c8 hp q2 q4 (by omega) (nI_m1 (by omega)) (nI_m1 (by omega))
            have hm9 := fun (R : kx_P) (s2 : Nat) => ct_X11_mend_0 l G (R := R) (sz := s2) h21 hcl hc h117 h110 h103 hp hwm ea ha hT0 q1
            have e9 : cx_md 0 (nI T0) (nI lf) (cx_ro T wm p T0) (C 7) = ck_fmM (upd M 0 0) (A 109 c) (ck_mc A c wm p T0) T0 lf 53 := by rw [C7]; exact q6 0 (by decide)
            rw [e9] at hcc
            simp only [q5] at hm9
            exact Or.inl (cSt_q h (by decide) (by decide) hcc (_, A, L) (hq0 _ _ _ _).2 (hq0 _ _ _ _).1 hm9)
          | 1, _ =>
            have hcc := ct_X10_mend_t1 l G (sz := sz) h64 h69 h7 hcl hc H hs hq h12 h14 hw1 ea ha c8 hp q2 q4 (by omega) (nI_m1 (by omega)) (nI_m1 (by omega))
            have hm9 := fun (R : kx_P) (s2 : Nat) => ct_X11_mend_1 l G (R := R) (sz := s2) h21 hcl hc h117 h110 h103 hp hwm ea ha hT0 q1
            have e9 : cx_md 1 (nI T0) (nI lf) (cx_ro T wm p T0) (C 7) = ck_fmM (upd M 0 0) (A 109 c) (ck_mc A c wm p T0) T0 lf 54 := by rw [C7]; exact q6 1 (by decide)
            rw [e9] at hcc
            simp only [q5] at hm9
            exact Or.inl (cSt_q h (by decide) (by decide) hcc (_, A, L) (hq0 _ _ _ _).2 (hq0 _ _ _ _).1 hm9)
          | 2, _ =>
            have hcc := ct_X10_mend_t2 l G (sz := sz) h64 h69 h7 hcl hc H hs hq h12 h14 hw1 ea ha c8 hp q2 q4 (by omega) (nI_m1 (by omega)) (nI_m1 (by omega))
            have hm9 := fun (R : kx_P) (s2 : Nat) => ct_X11_mend_2 l G (R := R) (sz := s2) h21 hcl hc h117 h110 h103 hp hwm ea ha hT0 q1
            have e9 : cx_md 2 (nI T0) (nI lf) (cx_ro T wm p T0) (C 7) = ck_fmM (upd M 0 0) (A 109 c) (ck_mc A c wm p T0) T0 lf 55 := by rw [C7]; exact q6 2 (by decide)
            rw [e9] at hcc
            simp only [q5] at hm9
            exact Or.inl (cSt_q h (by decide) (by decide) hcc (_, A, L) (hq0 _ _ _ _).2 (hq0 _ _ _ _).1 hm9)
    · exact cSs_2 (cSx_q (by decide) (by decide) (Or.inl rfl) (ct_X10_mend_b l G hst h64 h69 h7 hcl hc hy2) (fun R s2 => ct_X11_mend_b l G h21 hcl hc hy2))
  · exact cSs_1 (cSx_q (by decide) (by decide) (Or.inl rfl) (ct_X10_mend_f l G hst h64 hx) (fun R s2 => ct_X11_mend_f l G hy))

theorem cs_hands (l : Launch) (G : kx_G) (hst : l.stackTraces = false) {P : kx_P} {sz : Nat} {M : Nat → Int32} {A : Nat → Nat → Int32} {L : Nat → Nat → Int64} {cl mi se : Nat} {bl : Nat → Nat} (h : cI P sz (M, A, L) cl mi se bl) (x y z : Int32) : cSs l G sX10_hands sX11_hands [.int x, .int y, .int z] [.int x, .int y, .int z] P sz (M, A, L) se bl cS_NA := by
  obtain ⟨K, h64, h69, h7, hcl, k2, k5, k10, k11, h21⟩ := cI_k h
  rcases cl_ix hcl h7 h21 x with ⟨c, hc, rfl⟩ | ⟨hx, hy⟩
  · obtain ⟨K', Al, V, T, Q, Fo, St, S1, C, Kp, -, -, -, -, H, hs, hq, hkq, hA, al0, al1, al3, hmi, h1, -, hv, hC, hkp, hg⟩ := cI_c h hc
    obtain ⟨⟨⟨g0, g110, gnn⟩, ⟨r1, r2, r3, r4, r15, r115, r108, r113⟩, gdl⟩, i1, i2, i109, i5, i117, i104, i105, i111, i112, i100, i114⟩ := id hg
    obtain ⟨C0, C1, C4, C5, C6, C7, C8, C9, C10⟩ := id hC
    have hB9 : 144 ≤ bl c ∧ 144 ≤ bl (8 + c) := by
      obtain ⟨sd8, hm8, -, ⟨hB8, -⟩, -⟩ := id h
      exact ⟨(hB8.w hcl hc).2.1, (hB8.c hcl hc).2.1⟩
    by_cases hy9 : (-43200) ≤ y ∧ y ≤ 43200
    · obtain ⟨a, ha, ea⟩ := id gdl
      have hs9 := ir_of hy9.1 hy9.2
      obtain ⟨to, hto⟩ : ∃ to, lN a + y.toInt64 * 1000000 = to := ⟨_, rfl⟩
      obtain ⟨nh, n1, n2, n3⟩ := cx_quarters ha hs9 hto
      obtain ⟨e1, b, hb, e2⟩ := cx_dial_eq ha hs9 hto
      have hcc := ct_X10_hands_t l G (sz := sz) h64 h69 h7 hcl hc H hs hq (lt := z) hy9.1 hy9.2 (CN := fun j => A 106 (400 * c + j)) (NN := fun j => A 107 (400 * c + j)) (nn := (A 105 c).toNatClampNeg) (fun z => hv.2.2.2.2 (hv.2.2.1.symm.trans z)) ea ha hto n1 n2 n3
      have hm9 := fun (R : kx_P) (s2 : Nat) => ct_X11_hands_t l G (M := M) (R := R) (sz := s2) (lt := z) h21 hcl hc ea ha ⟨g0, g110, gnn⟩ hy9 (by rw [Int64.mul_comm]; exact hto) n1 n2 n3
      obtain ⟨w1, i1', v1, o1, o7, o8⟩ := cx_hd_eq (M := upd M 0 0) (S := S1) hv hg.1.1 hg.2 C4 C5 C7 C8 (lt := z) ha nh n1
      have hA : ∀ k, k ≠ 109 → k ≠ 110 → k ≠ 123 → (ck_hd (upd M 0 0) A c z a nh).2 k = A k := fun k k1 k2 k3 => ck_hd_A k1 k2 k3 nh
      have hM : ∀ j, ¬ j = 47 → ¬ j = 48 → (ck_hd (upd M 0 0) A c z a nh).1 j = upd M 0 0 j := fun j j1 j2 => ck_hd_M j1 j2 nh
      have hJ : ∀ k, k ≠ 123 → ∀ i, i ≠ c → (ck_hd (upd M 0 0) A c z a nh).2 k i = A k i := fun k k1 i hi => ck_hd_j hi k1 nh
      generalize cx_hd V T Q (fun j => A 106 (400 * c + j)) (fun j => A 107 (400 * c + j)) S1 C (A 105 c).toNatClampNeg z a nh = Z at hcc o1 o7 o8
      generalize ck_hd (upd M 0 0) A c z a nh = B at hm9 w1 i1' v1 o7 o8 hA hM hJ
      rw [e1] at hcc
      have eL : va_up L 116 (vp_updL (L 116) c (ck_wr2 to)) 116 c = ck_wr2 to := by rw [va_us, pk_uLs]
      have hg2 : cR_g B.2 (va_up L 116 (vp_updL (L 116) c (ck_wr2 to))) c := by
        refine ⟨⟨w1, ?_, b, hb, by rw [eL]; exact e2⟩, i1'⟩
        unfold ck_rg
        rw [hA 102 (by decide) (by decide) (by decide), hA 115 (by decide) (by decide) (by decide), hA 108 (by decide) (by decide) (by decide), hA 113 (by decide) (by decide) (by decide)]
        exact hg.1.2.1
      have hC2 : cR_C B.2 c Z.2 := by
        unfold cR_C
        rw [hA 100 (by decide) (by decide) (by decide), hA 101 (by decide) (by decide) (by decide), hA 111 (by decide) (by decide) (by decide), hA 112 (by decide) (by decide) (by decide), hA 108 (by decide) (by decide) (by decide), hA 115 (by decide) (by decide) (by decide), hA 113 (by decide) (by decide) (by decide), hA 117 (by decide) (by decide) (by decide), o1 0 (by omega), o1 1 (by omega), o1 4 (by omega), o1 5 (by omega), o1 6 (by omega), o1 9 (by omega), o1 10 (by omega)]
        exact ⟨C0, C1, C4, C5, C6, o7, o8, C9, C10⟩
      have haf := cI_clk (M2 := B.1) (A2 := B.2) (L2 := va_up L 116 (vp_updL (L 116) c (ck_wr2 to))) (S2 := Z.1) (C2 := Z.2) h hc hq (cI_w6 H hs) hkq hv hkp rfl (fun j hj => (hM j (by omega) (by omega)).trans (pk_un (by omega))) (fun k k1 k2 k3 => hA k (by omega) (by omega) k3) (fun k k1 i hi => hJ k k1 i hi) (fun i hi => by rw [va_us, pk_uLn hi]) eL.symm hC2 hg2
      exact Or.inl (cSt_s h hcc haf ((hM 0 (by decide) (by decide)).trans pk_us) hm9)
    · exact cSs_2 (cSx_q (by decide) (by decide) (Or.inl rfl) (ct_X10_hands_b l G hst h64 h69 h7 hcl hc hy9) (fun R s2 => ct_X11_hands_b l G h21 hcl hc hy9))
  · exact cSs_1 (cSx_q (by decide) (by decide) (Or.inl rfl) (ct_X10_hands_f l G hst h64 hx) (fun R s2 => ct_X11_hands_f l G hy))

theorem cs_wait (l : Launch) (G : kx_G) (hst : l.stackTraces = false) {P : kx_P} {sz : Nat} {M : Nat → Int32} {A : Nat → Nat → Int32} {L : Nat → Nat → Int64} {cl mi se : Nat} {bl : Nat → Nat} (h : cI P sz (M, A, L) cl mi se bl) (x : Int32) : cSs l G sX10_wait sX11_wait [.int x] [.int x] P sz (M, A, L) se bl cS_AI := by
  obtain ⟨K, h64, h69, h7, hcl, k2, k5, k10, k11, h21⟩ := cI_k h
  obtain ⟨Al, p65, al0⟩ : ∃ Al : Nat → Int32, P 65 = kO 0 (kf cr0 Al) ∧ Al 0 = M 1 := by
    obtain ⟨sd8, hm8, ⟨-, ⟨Al, p65, al0, -, -⟩, -⟩, -⟩ := id h
    exact ⟨Al, p65, al0⟩
  obtain ⟨h1, hmi⟩ : M 1 = nI mi ∧ mi ≤ 100000 := by
    obtain ⟨sd8, hm8, -⟩ := id h
    exact ⟨hm8.2.2.2.1, hm8.2.2.2.2.1⟩
  have hlim : ∀ k : Nat, k ≤ 10000 → (M 1 + nI k ≤ 100000 ↔ mi + k ≤ 100000) := fun k hk => by rw [h1, nI_add]; exact nI_leI (a := mi + k) (b := 100000) (by omega) (by decide)
  by_cases hm : 0 ≤ x ∧ x ≤ 10000
  · obtain ⟨m, hm1, rfl⟩ := nI_of3 (n := 10000) (by decide) hm.1 hm.2
    by_cases hl : mi + m ≤ 100000
    · obtain ⟨sd, a, b, c⟩ := cI_0 h
      obtain ⟨sd2, hm2, -⟩ := id h
      obtain ⟨iv1, iv2⟩ := cR_m.iv hm2
      exact Or.inl ⟨.int (nI (mi + m)), ck_mns (upd M 0 0, A, L) cl m, 9, 6, 0, 0, cl, mi + m, se, bl, cvT_i (by decide), by decide, by decide, by decide, by omega, by omega, (ct_X10_wait_t l G (sz := sz) a b c hm1 hl).imp (fun r P2 s2 ⟨z1, z2, z3⟩ => ⟨z1, by omega, by rw [z2]; exact z3⟩), fun R s2 => (ct_X11_wait_t l G (sz := s2) (R := R) h21 hcl h1 hm1 hl iv2 iv1).n.imp (fun r P3 s3 ⟨z1, z2, z3⟩ => ⟨z1, z3, _, z2, (ck_mns_0 rfl m).trans (show upd M 0 0 0 = 0 from pk_us), cq.rf _⟩)⟩
    · have hl2 : ¬ M 1 + nI m ≤ 100000 := fun z => hl ((hlim m hm1).mp z)
      exact cSs_2 (cSx_q (by decide) (by decide) (Or.inl rfl) (ct_X10_wait_l l G hst h64 p65 hm.1 hm.2 (by rw [al0]; exact hl2)) (fun R s2 => ct_X11_wait_l l G hm hl2))
  · exact cSs_1 (cSx_q (by decide) (by decide) (Or.inl rfl) (ct_X10_wait_b l G hst h64 hm) (fun R s2 => ct_X11_wait_b l G hm))

theorem cs_foretold (l : Launch) (G : kx_G) (hst : l.stackTraces = false) {P : kx_P} {sz : Nat} {M : Nat → Int32} {A : Nat → Nat → Int32} {L : Nat → Nat → Int64} {cl mi se : Nat} {bl : Nat → Nat} (h : cI P sz (M, A, L) cl mi se bl) (x y z : Int32) : cSs l G sX10_foretold sX11_foretold [.int x, .int y, .int z] [.int x, .int y, .int z] P sz (M, A, L) se bl cS_NAI := by
  obtain ⟨K, h64, h69, h7, hcl, k2, k5, k10, k11, h21⟩ := cI_k h
  obtain ⟨Al, p65, al0⟩ : ∃ Al : Nat → Int32, P 65 = kO 0 (kf cr0 Al) ∧ Al 0 = M 1 := by
    obtain ⟨sd8, hm8, ⟨-, ⟨Al, p65, al0, -, -⟩, -⟩, -⟩ := id h
    exact ⟨Al, p65, al0⟩
  obtain ⟨h1, hmi⟩ : M 1 = nI mi ∧ mi ≤ 100000 := by
    obtain ⟨sd8, hm8, -⟩ := id h
    exact ⟨hm8.2.2.2.1, hm8.2.2.2.2.1⟩
  have hlim : ∀ k : Nat, k ≤ 10000 → (M 1 + nI k ≤ 100000 ↔ mi + k ≤ 100000) := fun k hk => by rw [h1, nI_add]; exact nI_leI (a := mi + k) (b := 100000) (by omega) (by decide)
  rcases cl_ix hcl h7 h21 x with ⟨c, hc, rfl⟩ | ⟨hx, hy⟩
  · by_cases hm : 1 ≤ y ∧ y ≤ 3000
    · by_cases hw : 0 ≤ z ∧ z ≤ 6
      · obtain ⟨w, hw6, rfl⟩ := nI_of3 (n := 6) (by decide) hw.1 hw.2
        obtain ⟨k, hk3, rfl⟩ := nI_of3 (n := 3000) (by decide) (Int32.le_trans (by decide) hm.1) hm.2
        have hk1 : 1 ≤ k := (nI_leI (a := 1) (b := k) (by decide) (by omega)).mp hm.1
        by_cases hl : mi + k ≤ 100000
        · obtain ⟨sd, hm2, hst2, hdy2, -⟩ := id h
          obtain ⟨iv1, iv2⟩ := cR_m.iv hm2
          have hmo := fun (R : kx_P) (s2 : Nat) => ct_X11_foretold_t l G (sz := s2) (R := R) h21 hcl hc h1 ⟨hk1, hk3⟩ hw6 hl iv2 iv1
          have hq9 : cq (M, A, L) (ck_fo M A L cl c k) := by
            refine ⟨fun j hj => ?_, fun i hi => ck_fo_A (by omega), ck_fo_L⟩
            by_cases e : j = 49
            · subst e
              have a49 : M 49 = 0 := hm2.2.2.2.2.2.2.1
              show (ck_fo M A L cl c k).1 49 = M 49
              rw [a49]
              rfl
            · exact (ck_fo_M (by omega)).trans (pk_un (by omega))
          have h09 : (ck_fo M A L cl c k).1 0 = 0 := (ck_fo_M (by decide)).trans pk_us
          have fin : ∀ {v : Value}, kx_Mn l G sX10_foretold 9 0 0 [.ref 64, .int (nI c), .int (nI k), .int (nI w)] P sz (fun r P2 s2 => r = some v ∧ s2 = sz ∧ cR_af P P2 (M, A, L) cl mi se sz bl) → v = .int (ck_seenV (ck_mns (ck_fS M A L cl c) cl k) c w) → cSs l G sX10_foretold sX11_foretold [.int (nI c), .int (nI k), .int (nI w)] [.int (nI c), .int (nI k), .int (nI w)] P sz (M, A, L) se bl cS_NAI := fun hcc ev => by
            subst ev
            exact Or.inl ⟨_, (M, A, L), 9, 6, 0, 0, cl, mi, se, bl, cvT_i (by decide), by decide, by decide, by decide, by omega, by omega, hcc.imp (fun r P2 s2 ⟨z1, z2, z3⟩ => ⟨z1, by omega, by rw [z2]; exact z3⟩), fun R s2 => (hmo R s2).n.imp (fun r P3 s3 ⟨z1, z2, z3⟩ => ⟨z1, z3, ck_fo M A L cl c k, z2, h09, hq9⟩)⟩
          match w, hw6 with
          | 0, _ => exact fin (ct_X10_foretold_0 l G hst2 hdy2 hm2 hc hk1 hk3 hl) rfl
          | 1, _ => exact fin (ct_X10_foretold_1 l G hst2 hdy2 hm2 hc hk1 hk3 hl) rfl
          | 2, _ => exact fin (ct_X10_foretold_2 l G hst2 hdy2 hm2 hc hk1 hk3 hl) rfl
          | 3, _ => exact fin (ct_X10_foretold_3 l G hst2 hdy2 hm2 hc hk1 hk3 hl) rfl
          | 4, _ => exact fin (ct_X10_foretold_4 l G hst2 hdy2 hm2 hc hk1 hk3 hl) rfl
          | 5, _ => exact fin (ct_X10_foretold_5 l G hst2 hdy2 hm2 hc hk1 hk3 hl) rfl
          | 6, _ => exact fin (ct_X10_foretold_6 l G hst2 hdy2 hm2 hc hk1 hk3 hl) rfl
        · have hl2 : ¬ M 1 + nI k ≤ 100000 := fun z => hl ((hlim k (by omega)).mp z)
          exact cSs_3 (cSx_q (by decide) (by decide) (Or.inl rfl) (ct_X10_foretold_l l G hst h64 h69 h7 hcl hc hm.1 hm.2 hw.1 hw.2 p65 (by rw [al0]; exact hl2)) (fun R s2 => ct_X11_foretold_l l G h21 hcl hc hm hw hl2))
      · exact cSs_2 (cSx_q (by decide) (by decide) (Or.inl rfl) (ct_X10_foretold_b l G hst h64 h69 h7 hcl hc (fun q => hw q.2.2)) (fun R s2 => ct_X11_foretold_w l G h21 hcl hc hm hw))
    · exact cSs_2 (cSx_q (by decide) (by decide) (Or.inl rfl) (ct_X10_foretold_b l G hst h64 h69 h7 hcl hc (fun q => hm ⟨q.1, q.2.1⟩)) (fun R s2 => ct_X11_foretold_m l G h21 hcl hc hm))
  · exact cSs_1 (cSx_q (by decide) (by decide) (Or.inl rfl) (ct_X10_foretold_f l G hst h64 hx) (fun R s2 => ct_X11_foretold_f l G hy))

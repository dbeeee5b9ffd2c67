/-! PURE: a MINUTE of one clock, both ways. -/
theorem ck_h_n {x : Nat} (h : x < 2 ^ 60) : ck_h (lN x) = nI (x / 3600000000 % 24) := by
  unfold ck_h
  rw [show (3600000000 : Int64) = lN 3600000000 from rfl, show (24 : Int64) = lN 24 from rfl, pk_lDiv (by omega) (by decide) (by decide), pk_lRem (by omega) (by decide) (by decide), lN_i]
theorem ck_last_n (m lp : Int32) : ∃ x : Nat, x ≤ 31 ∧ ck_last m lp = nI x := by
  unfold ck_last
  repeat' split
  · exact ⟨28, by omega, rfl⟩
  · exact ⟨29, by omega, rfl⟩
  · exact ⟨30, by omega, rfl⟩
  · exact ⟨31, by omega, rfl⟩
theorem ck_cal_n (cal mo lp : Int32) : ∃ x : Nat, x ≤ 31 ∧ ck_cal cal mo lp = nI x := by
  unfold ck_cal
  split
  · exact ⟨31, by omega, rfl⟩
  · exact ck_last_n _ _
theorem ck_cal_b {cal mo lp : Int32} (hlp : lp = 0 ∨ lp = 1) : True := trivial
/-- the next date, both ways -/
theorem cx_td_eq {A1 : Nat → Nat → Int32} {i : Nat} {V C : Nat → Int32} {lp : Int32} (v8 : V 8 = A1 102 (16 * i + 13)) (c4 : C 4 = A1 111 i) (c5 : C 5 = A1 112 i) {d m : Nat} (hd : 1 ≤ d ∧ d ≤ 31) (hm : 1 ≤ m ∧ m ≤ 12) (ed : A1 111 i = nI d) (em : A1 112 i = nI m) :
    cx_td V C lp 4 = ck_nextA A1 i (ck_cal (A1 102 (16 * i + 13)) (A1 112 i) lp) 111 i ∧ cx_td V C lp 5 = ck_nextA A1 i (ck_cal (A1 102 (16 * i + 13)) (A1 112 i) lp) 112 i ∧
    (∃ d : Nat, 1 ≤ d ∧ d ≤ 31 ∧ ck_nextA A1 i (ck_cal (A1 102 (16 * i + 13)) (A1 112 i) lp) 111 i = nI d) ∧ ∃ m : Nat, 1 ≤ m ∧ m ≤ 12 ∧ ck_nextA A1 i (ck_cal (A1 102 (16 * i + 13)) (A1 112 i) lp) 112 i = nI m := by
  unfold cx_td cx_db cx_mb cx_em ck_nextA
  rw [pk_un (show (4 : Nat) ≠ 5 by decide), pk_us, pk_us, v8, c4, c5]
  obtain ⟨la, hla, ela⟩ := ck_cal_n (A1 102 (16 * i + 13)) (A1 112 i) lp
  rw [ela, ed, em]
  by_cases h : nI d < nI la
  · have h2 := (nI_ltI (by omega) (by omega)).mp h
    rw [if_pos h, if_pos rfl, if_pos rfl, if_pos h]
    refine ⟨?_, ?_, ⟨d + 1, by omega, by omega, ?_⟩, ⟨m, hm.1, hm.2, ?_⟩⟩
    · rw [va_us, pk_us]
    · rw [va_upn (by decide), em]
    · rw [va_us, pk_us, nI_1]
    · rw [va_upn (by decide), em]
  · simp only [if_neg h, if_neg (show ¬ (1 : Int32) = 0 by decide)]
    refine ⟨?_, ?_, ⟨1, by omega, by omega, ?_⟩, ⟨m % 12 + 1, by omega, by omega, ?_⟩⟩
    · rw [va_upn (by decide), va_us, pk_us]
    · rw [va_us, pk_us]
    · rw [va_upn (by decide), va_us, pk_us]; rfl
    · rw [va_us, pk_us, show (12 : Int32) = nI 12 from rfl, pk_rem (by omega) (by decide) (by decide), nI_1]
theorem cx_gm_eq {S : ck_S} {i : Nat} {V T Q Fo St S0 C : Nat → Int32} (hv : cR_v S.2.1 i V T Q Fo St) (hw : ck_wf S.2.1 i) (hi : cR_i S.2.1 i) (c4 : C 4 = S.2.1 111 i) (c5 : C 5 = S.2.1 112 i) (c6 : C 6 = S.2.1 108 i) (c7 : C 7 = S.2.1 109 i) (c8 : ¬ S.2.1 117 i = 0 → C 8 = S.2.1 110 i)
    {lf a mo : Nat} (h6 : S.2.1 108 i = nI lf) (hlf : lf ≤ 44640) (hd : S.2.2 116 i = lN a) (ha : a < 86400000000) (hmo : ck_more S.1 S.2.1 i = lN mo) (hmo2 : 56000000 ≤ mo ∧ mo ≤ 64000000) {S2 C2 : Nat → Int32} {d2 : Int64}
    (he : cx_gm V T Q (fun j => S.2.1 106 (400 * i + j)) (fun j => S.2.1 107 (400 * i + j)) S0 C (S.2.1 105 i).toNatClampNeg (S.1 3) lf a mo = (S2, d2, C2)) :
    d2 = (ck_go S i).2.2 116 i ∧ C2 4 = (ck_go S i).2.1 111 i ∧ C2 5 = (ck_go S i).2.1 112 i ∧ C2 6 = (ck_go S i).2.1 108 i ∧ C2 7 = (ck_go S i).2.1 109 i ∧ (¬ S.2.1 117 i = 0 → C2 8 = (ck_go S i).2.1 110 i) ∧
    (∀ j, (j < 4 ∨ j = 9 ∨ j = 10 ∨ j = 11) → C2 j = C j) ∧ cR_i (ck_go S i).2.1 i ∧
    ∃ x y : Nat, x ≤ 16 ∧ y ≤ 24 ∧ C2 13 = nI x ∧ C2 14 = nI y ∧
      (((C2 15 = 0 ∨ x + y = 0) ∧ (∀ j, ¬ j = 47 → ¬ j = 48 → (ck_go S i).1 j = S.1 j) ∧ (∀ k, 118 ≤ k → k ≤ 121 → (ck_go S i).2.1 k = S.2.1 k)) ∨
       (C2 15 = 1 ∧ 0 < x + y ∧ ∃ sec : Nat, sec ≤ 59 ∧ C2 12 = nI sec ∧
        (S.1 49 = 0 → (ck_go S i).1 22 = S.1 22 + 1 ∧ (ck_go S i).2.1 118 = upd (S.2.1 118) ((S.1 22).toNatClampNeg % 200) (nI i) ∧ (ck_go S i).2.1 119 = upd (S.2.1 119) ((S.1 22).toNatClampNeg % 200) (60 * S.1 1 + nI sec) ∧ (ck_go S i).2.1 120 = upd (S.2.1 120) ((S.1 22).toNatClampNeg % 200) (nI x) ∧ (ck_go S i).2.1 121 = upd (S.2.1 121) ((S.1 22).toNatClampNeg % 200) (nI y)) ∧
        (¬ S.1 49 = 0 → nI i = S.1 50 → (ck_go S i).1 51 = S.1 51 + 1 ∧ (ck_go S i).1 52 = S.1 52 + (nI x + nI y)))) := by
  obtain ⟨M, A, L⟩ := S
  dsimp only at *
  have ha2 : ck_tn (L 116 i) = a := by rw [hd]; exact ck_tn_l (by omega)
  have hm2 : ck_tn (ck_more M A i) = mo := by rw [hmo]; exact ck_tn_l (by omega)
  obtain ⟨d, hd1, hd31, ed⟩ := hi.2.2.2.2.2.2.2.1
  obtain ⟨m, hm1, hm12, em⟩ := hi.2.2.2.2.2.2.2.2.1
  unfold cx_gm at he
  dsimp only at he
  unfold ck_go
  dsimp only
  rw [ha2, hm2]
  by_cases hl : lf = 0
  · have h60 : A 108 i = 0 := by rw [h6, hl]; rfl
    rw [if_pos hl] at he
    rw [if_pos h60]
    have e1 : lN a = d2 := (Prod.mk.inj (Prod.mk.inj he).2).1
    have e2 : upd (upd C 13 0) 14 0 = C2 := (Prod.mk.inj (Prod.mk.inj he).2).2
    rw [← e1, ← e2]
    have fo : ∀ j : Nat, ¬ j = 13 → ¬ j = 14 → upd (upd C 13 0) 14 0 j = C j := fun j a b => by rw [pk_un b, pk_un a]
    refine ⟨hd.symm, (fo 4 (by decide) (by decide)).trans c4, (fo 5 (by decide) (by decide)).trans c5, (fo 6 (by decide) (by decide)).trans c6, (fo 7 (by decide) (by decide)).trans c7, fun h => (fo 8 (by decide) (by decide)).trans (c8 h), fun j hj => fo j (by omega) (by omega), hi, 0, 0, by omega, by omega, ?_, ?_, Or.inl ⟨Or.inr rfl, fun j _ _ => rfl, fun k _ _ => rfl⟩⟩
    · rw [pk_un (by decide), pk_us]; rfl
    · rw [pk_us]; rfl
  · have h6n : ¬ A 108 i = 0 := by rw [h6]; exact nI_ne0 (by omega) (by omega)
    rw [if_neg hl] at he
    rw [if_neg h6n]
    have hL : va_up L 116 (vp_updL (L 116) i (lN ((a + mo) % 86400000000))) 116 i = lN ((a + mo) % 86400000000) := by rw [va_us, pk_uLs]
    have h6s : A 108 i - 1 = nI (lf - 1) := by rw [h6]; exact pk_sub (by omega : 1 ≤ lf)
    by_cases hq : (a / 900000000 + 1) * 900000000 ≤ a + mo
    · rw [if_pos hq] at he ⊢
      obtain ⟨q, hqd⟩ : ∃ q, q = (a / 900000000 + 1) * 900000000 := ⟨_, rfl⟩
      rw [← hqd] at he hq ⊢
      obtain ⟨sec, hsec⟩ : ∃ sec, sec = min 59 (60 * (q - a) / mo) := ⟨_, rfl⟩
      rw [← hsec] at he ⊢
      have hsec59 : sec ≤ 59 := by omega
      obtain ⟨A1, hA1⟩ : ∃ A1, A1 = va_up A 108 (upd (A 108) i (A 108 i - 1)) := ⟨_, rfl⟩
      rw [← hA1]
      have a1o : ∀ k, k ≠ 108 → A1 k = A k := fun k h => by rw [hA1, va_upn h]
      have a1i : A1 108 i = nI (lf - 1) := by rw [hA1, va_us, pk_us, h6s]
      obtain ⟨C1, hC1⟩ : ∃ C1, C1 = upd (upd (upd (upd C 13 0) 14 0) 6 (nI (lf - 1))) 12 (nI sec) := ⟨_, rfl⟩
      rw [← hC1] at he
      have g6 : C1 6 = nI (lf - 1) := by rw [hC1, pk_un (by decide), pk_us]
      have g12 : C1 12 = nI sec := by rw [hC1, pk_us]
      have g13 : C1 13 = 0 := by rw [hC1, pk_un (by decide), pk_un (by decide), pk_un (by decide), pk_us]
      have g14 : C1 14 = 0 := by rw [hC1, pk_un (by decide), pk_un (by decide), pk_us]
      have go : ∀ j : Nat, ¬ j = 6 → ¬ j = 12 → ¬ j = 13 → ¬ j = 14 → C1 j = C j := fun j h1 h2 h3 h4 => by rw [hC1, pk_un h2, pk_un h1, pk_un h4, pk_un h3]
      clear hC1
      obtain ⟨A2, hA2⟩ : ∃ A2, A2 = (if q = 86400000000 then ck_nextA A1 i (ck_cal (A 102 (16 * i + 13)) (A 112 i) (M 3)) else A1) := ⟨_, rfl⟩
      rw [← hA2]
      obtain ⟨C3, hC3⟩ : ∃ C3, C3 = (if q = 86400000000 then cx_td V C1 (M 3) else C1) := ⟨_, rfl⟩
      rw [← hC3] at he
      have hdate : C3 4 = A2 111 i ∧ C3 5 = A2 112 i ∧ (∃ d : Nat, 1 ≤ d ∧ d ≤ 31 ∧ A2 111 i = nI d) ∧ (∃ m : Nat, 1 ≤ m ∧ m ≤ 12 ∧ A2 112 i = nI m) ∧ (∀ j, ¬ j = 4 → ¬ j = 5 → C3 j = C1 j) ∧ ∀ k, k ≠ 111 → k ≠ 112 → A2 k = A1 k := by
        rw [hA2, hC3]
        by_cases hz : q = 86400000000
        · rw [if_pos hz, if_pos hz, ← a1o 102 (by decide), ← a1o 112 (by decide)]
          obtain ⟨z1, z2, z3, z4⟩ := cx_td_eq (A1 := A1) (i := i) (V := V) (C := C1) (lp := M 3) (by rw [a1o 102 (by decide)]; exact hv.1.2.2.2.2.2.2.2.2.1) (by rw [a1o 111 (by decide), go 4 (by decide) (by decide) (by decide) (by decide)]; exact c4) (by rw [a1o 112 (by decide), go 5 (by decide) (by decide) (by decide) (by decide)]; exact c5) ⟨hd1, hd31⟩ ⟨hm1, hm12⟩ (by rw [a1o 111 (by decide)]; exact ed) (by rw [a1o 112 (by decide)]; exact em)
          refine ⟨z1, z2, z3, z4, fun j h4 h5 => ?_, fun k h1 h2 => ck_nx_A h1 h2⟩
          unfold cx_td
          rw [pk_un h5, pk_un h4]
        · rw [if_neg hz, if_neg hz, a1o 111 (by decide), a1o 112 (by decide)]
          exact ⟨(go 4 (by decide) (by decide) (by decide) (by decide)).trans c4, (go 5 (by decide) (by decide) (by decide) (by decide)).trans c5, ⟨d, hd1, hd31, ed⟩, ⟨m, hm1, hm12, em⟩, fun j _ _ => rfl, fun k _ _ => rfl⟩
      clear hA2 hC3
      obtain ⟨k4, k5, kd, km, kC, kA⟩ := hdate
      have hAo : ∀ k, k ≠ 108 → k ≠ 111 → k ≠ 112 → A2 k = A k := fun k h1 h2 h3 => (kA k h2 h3).trans (a1o k h1)
      have e102 := hAo 102 (by decide) (by decide) (by decide)
      have e103 := hAo 103 (by decide) (by decide) (by decide)
      have e104 := hAo 104 (by decide) (by decide) (by decide)
      have e105 := hAo 105 (by decide) (by decide) (by decide)
      have e106 := hAo 106 (by decide) (by decide) (by decide)
      have e107 := hAo 107 (by decide) (by decide) (by decide)
      have e109 := hAo 109 (by decide) (by decide) (by decide)
      have e110 := hAo 110 (by decide) (by decide) (by decide)
      have e117 := hAo 117 (by decide) (by decide) (by decide)
      have e108 : A2 108 i = nI (lf - 1) := by rw [kA 108 (by decide) (by decide)]; exact a1i
      have hv2 : cR_v A2 i V T Q Fo St := by
        unfold cR_v
        rw [e102, e103, e104, e105, e106, e107, e117]
        exact hv
      have hw2 : ck_wf A2 i := by
        unfold ck_wf
        rw [e102, e103, e105, e106, e110, e117]
        exact hw
      have hi2 : cR_i A2 i := by
        unfold cR_i
        rw [e102, e103, e104, e105, e109, e117, hAo 100 (by decide) (by decide) (by decide), hAo 101 (by decide) (by decide) (by decide), hAo 114 (by decide) (by decide) (by decide)]
        obtain ⟨i1, i2, i3, i4, i5, i6, i7, i8, i9, i10⟩ := hi
        exact ⟨i1, i2, i3, i4, i5, i6, i7, kd, km, i10⟩
      have hqk : q / 900000000 = a / 900000000 + 1 := by omega
      have hs := cx_snd_eq (S := S0) (C := C3) hv2 hw2 hi2 k4 k5 (by rw [kC 7 (by decide) (by decide), go 7 (by decide) (by decide) (by decide) (by decide), e109]; exact c7) (fun h => by rw [kC 8 (by decide) (by decide), go 8 (by decide) (by decide) (by decide) (by decide), e110]; exact c8 (by rw [← e117]; exact h))
        (M := M) (t := lN q) (q := q / 900000000 % 96) (Nat.mod_lt _ (by decide)) (by rw [ck_h_n (by omega)]; congr 1; omega) (by rw [ck_q_n (by omega)]; congr 1; omega) (S2 := S2) (C2 := C2) (by
          rw [e105, e106, e107]
          exact Prod.ext (Prod.mk.inj he).1 (Prod.mk.inj (Prod.mk.inj he).2).2)
      have e1 : lN ((a + mo) % 86400000000) = d2 := (Prod.mk.inj (Prod.mk.inj he).2).1
      obtain ⟨s1, s7, s8, s9, x, y, hx, hy, hs14⟩ := hs
      obtain ⟨s13, s14, hsd⟩ := hs14 (by rw [kC 13 (by decide) (by decide)]; exact g13) (by rw [kC 14 (by decide) (by decide)]; exact g14)
      have so : ∀ k, k ≠ 109 → k ≠ 110 → k ≠ 123 → (ck_sn M A2 i (lN q)).2.2 k = A2 k := fun k h1 h2 h3 => ck_sn_A h1 h2 h3
      have sM : ∀ j, j ≠ 47 → j ≠ 48 → (ck_sn M A2 i (lN q)).2.1 j = M j := fun j h7 h8 => ck_sn_M h7 h8
      generalize ck_sn M A2 i (lN q) = s at s7 s8 s9 hsd so sM ⊢
      have C4 : C2 4 = s.2.2 111 i := by rw [s1 4 (by decide) (by decide) (by decide) (by decide) (by decide), so 111 (by decide) (by decide) (by decide)]; exact k4
      have C5 : C2 5 = s.2.2 112 i := by rw [s1 5 (by decide) (by decide) (by decide) (by decide) (by decide), so 112 (by decide) (by decide) (by decide)]; exact k5
      have C6 : C2 6 = s.2.2 108 i := by rw [s1 6 (by decide) (by decide) (by decide) (by decide) (by decide), so 108 (by decide) (by decide) (by decide), e108, kC 6 (by decide) (by decide)]; exact g6
      have C12 : C2 12 = nI sec := by rw [s1 12 (by decide) (by decide) (by decide) (by decide) (by decide), kC 12 (by decide) (by decide)]; exact g12
      have Co : ∀ j, (j < 4 ∨ j = 9 ∨ j = 10 ∨ j = 11) → C2 j = C j := fun j hj => by rw [s1 j (by omega) (by omega) (by omega) (by omega) (by omega), kC j (by omega) (by omega), go j (by omega) (by omega) (by omega) (by omega)]
      have s8' : ¬ A 117 i = 0 → C2 8 = s.2.2 110 i := fun h => s8 (by rw [e117]; exact h)
      have hI : ∀ B : Nat → Nat → Int32, (∀ k, (k < 118 ∨ 121 < k) → B k = s.2.2 k) → cR_i B i := by
        intro B hB
        unfold cR_i
        rw [hB 102 (by omega), hB 103 (by omega), hB 104 (by omega), hB 105 (by omega), hB 109 (by omega), hB 111 (by omega), hB 112 (by omega), hB 117 (by omega), hB 100 (by omega), hB 101 (by omega), hB 114 (by omega)]
        rw [so 102 (by decide) (by decide) (by decide), so 103 (by decide) (by decide) (by decide), so 104 (by decide) (by decide) (by decide), so 105 (by decide) (by decide) (by decide), so 111 (by decide) (by decide) (by decide), so 112 (by decide) (by decide) (by decide), so 117 (by decide) (by decide) (by decide), so 100 (by decide) (by decide) (by decide), so 101 (by decide) (by decide) (by decide), so 114 (by decide) (by decide) (by decide)]
        obtain ⟨i1, i2, i3, i4, i5, i6, i7, i8, i9, i10⟩ := hi2
        exact ⟨i1, i2, s9, i4, i5, i6, i7, i8, i9, i10⟩
      rcases hsd with ⟨h0, hor⟩ | ⟨h1, h15, hpos, h47, h48⟩
      · rw [if_pos h0]
        dsimp only
        refine ⟨by rw [hL]; exact e1.symm, C4, C5, C6, s7, s8', Co, hI _ (fun k _ => rfl), x, y, hx, hy, s13, s14, Or.inl ⟨hor, fun j h7 h8 => sM j h7 h8, fun k h1 h2 => ?_⟩⟩
        rw [so k (by omega) (by omega) (by omega)]
        exact hAo k (by omega) (by omega) (by omega)
      · rw [if_neg (by rw [h1]; decide)]
        have ko : ∀ k, (k < 118 ∨ 121 < k) → (ck_kp s.2.1 s.2.2 (nI i) (60 * M 1 + nI sec)).2 k = s.2.2 k := fun k hk => ck_kp_A (by omega) (by omega) (by omega) (by omega)
        dsimp only
        refine ⟨by rw [hL]; exact e1.symm, by rw [ko 111 (by omega)]; exact C4, by rw [ko 112 (by omega)]; exact C5, by rw [ko 108 (by omega)]; exact C6, by rw [ko 109 (by omega)]; exact s7, fun h => by rw [ko 110 (by omega)]; exact s8' h, Co, hI _ ko, x, y, hx, hy, s13, s14, Or.inr ⟨h15, hpos, sec, hsec59, C12, fun h49 => ?_, fun h49 h50 => ?_⟩⟩
        · unfold ck_kp
          rw [if_pos (by rw [sM 49 (by decide) (by decide)]; exact h49)]
          unfold ck_keepA
          dsimp only
          rw [sM 22 (by decide) (by decide), h47, h48, pk_us, so 118 (by decide) (by decide) (by decide), so 119 (by decide) (by decide) (by decide), so 120 (by decide) (by decide) (by decide), so 121 (by decide) (by decide) (by decide), hAo 118 (by decide) (by decide) (by decide), hAo 119 (by decide) (by decide) (by decide), hAo 120 (by decide) (by decide) (by decide), hAo 121 (by decide) (by decide) (by decide)]
          refine ⟨rfl, ?_, ?_, ?_, ?_⟩
          · rw [va_upn (by decide), va_upn (by decide), va_upn (by decide), va_us]
          · rw [va_upn (by decide), va_upn (by decide), va_us]
          · rw [va_upn (by decide), va_us]
          · rw [va_us]
        · unfold ck_kp
          rw [if_neg (by rw [sM 49 (by decide) (by decide)]; exact h49), if_pos (by rw [sM 50 (by decide) (by decide)]; exact h50)]
          dsimp only
          rw [pk_un (by decide), pk_us, pk_us, sM 51 (by decide) (by decide), sM 52 (by decide) (by decide), h47, h48]
          exact ⟨rfl, rfl⟩
    · rw [if_neg hq] at he ⊢
      have e1 : lN ((a + mo) % 86400000000) = d2 := (Prod.mk.inj (Prod.mk.inj he).2).1
      have e2 : upd (upd (upd C 13 0) 14 0) 6 (nI (lf - 1)) = C2 := (Prod.mk.inj (Prod.mk.inj he).2).2
      rw [← e1, ← e2]
      have fo : ∀ j : Nat, ¬ j = 6 → ¬ j = 13 → ¬ j = 14 → upd (upd (upd C 13 0) 14 0) 6 (nI (lf - 1)) j = C j := fun j a b c => by rw [pk_un a, pk_un c, pk_un b]
      have ao : ∀ k, k ≠ 108 → va_up A 108 (upd (A 108) i (A 108 i - 1)) k = A k := fun k h => va_upn h
      dsimp only
      refine ⟨hL.symm, by rw [ao 111 (by decide)]; exact (fo 4 (by decide) (by decide) (by decide)).trans c4, by rw [ao 112 (by decide)]; exact (fo 5 (by decide) (by decide) (by decide)).trans c5, by rw [va_us, pk_us, pk_us, h6s], by rw [ao 109 (by decide)]; exact (fo 7 (by decide) (by decide) (by decide)).trans c7, fun h => by rw [ao 110 (by decide)]; exact (fo 8 (by decide) (by decide) (by decide)).trans (c8 h), fun j hj => fo j (by omega) (by omega) (by omega), ?_, 0, 0, by omega, by omega, ?_, ?_, Or.inl ⟨Or.inr rfl, fun j _ _ => rfl, fun k h1 h2 => ao k (by omega)⟩⟩
      · unfold cR_i
        rw [ao 102 (by decide), ao 103 (by decide), ao 104 (by decide), ao 105 (by decide), ao 109 (by decide), ao 111 (by decide), ao 112 (by decide), ao 117 (by decide), ao 100 (by decide), ao 101 (by decide), ao 114 (by decide)]
        exact hi
      · rw [pk_un (by decide), pk_un (by decide), pk_us]; rfl
      · rw [pk_un (by decide), pk_us]; rfl

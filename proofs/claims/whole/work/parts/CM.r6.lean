/-! EACH CALL, both ways: the calls that change nothing -/
/-- the class's and the reference's answers agree: a value, or one of the exceptions named -/
def cSs (l : Launch) (G : kx_G) (yc ym : kx_S) (Ac Am : List Value) (P : kx_P) (sz : Nat) (S : ck_S) (se : Nat) (bl : Nat → Nat) (ts : List (String × Int32)) : Prop :=
  cSt l G yc ym Ac Am P sz S se bl ∨ ∃ p : String × Int32, p ∈ ts ∧ cSx l G yc ym Ac Am P sz S p.1 p.2
abbrev cS_A : List (String × Int32) := [("java/lang/IllegalArgumentException", 1)]
abbrev cS_N : List (String × Int32) := [("java/util/NoSuchElementException", 1)]
abbrev cS_NA : List (String × Int32) := [("java/util/NoSuchElementException", 1), ("java/lang/IllegalArgumentException", 2)]
abbrev cS_AI : List (String × Int32) := [("java/lang/IllegalArgumentException", 1), ("java/lang/IllegalStateException", 2)]
abbrev cS_NAI : List (String × Int32) := [("java/util/NoSuchElementException", 1), ("java/lang/IllegalArgumentException", 2), ("java/lang/IllegalStateException", 3)]
theorem cSs_1 {l : Launch} {G : kx_G} {yc ym : kx_S} {Ac Am : List Value} {P : kx_P} {sz : Nat} {S : ck_S} {se : Nat} {bl : Nat → Nat} {E : String} {c : Int32} {ts : List (String × Int32)} (h : cSx l G yc ym Ac Am P sz S E c) : cSs l G yc ym Ac Am P sz S se bl ((E, c) :: ts) := Or.inr ⟨(E, c), List.mem_cons_self, h⟩
theorem cSs_2 {l : Launch} {G : kx_G} {yc ym : kx_S} {Ac Am : List Value} {P : kx_P} {sz : Nat} {S : ck_S} {se : Nat} {bl : Nat → Nat} {E : String} {c : Int32} {t : String × Int32} {ts : List (String × Int32)} (h : cSx l G yc ym Ac Am P sz S E c) : cSs l G yc ym Ac Am P sz S se bl (t :: (E, c) :: ts) := Or.inr ⟨(E, c), List.mem_cons_of_mem _ List.mem_cons_self, h⟩
theorem cSs_3 {l : Launch} {G : kx_G} {yc ym : kx_S} {Ac Am : List Value} {P : kx_P} {sz : Nat} {S : ck_S} {se : Nat} {bl : Nat → Nat} {E : String} {c : Int32} {t u : String × Int32} {ts : List (String × Int32)} (h : cSx l G yc ym Ac Am P sz S E c) : cSs l G yc ym Ac Am P sz S se bl (t :: u :: (E, c) :: ts) := Or.inr ⟨(E, c), List.mem_cons_of_mem _ (List.mem_cons_of_mem _ List.mem_cons_self), h⟩
theorem cSt_r {l : Launch} {G : kx_G} {yc ym : kx_S} {Ac Am : List Value} {P : kx_P} {sz : Nat} {M : Nat → Int32} {A : Nat → Nat → Int32} {L : Nat → Nat → Int64} {cl mi se : Nat} {bl : Nat → Nat} {v : Value} {dc dm : Nat} (h : cI P sz (M, A, L) cl mi se bl)
    (hc : kx_M l G yc dc 0 0 (.ref 64 :: Ac) P sz (some v) P sz) (hm : ∀ (R : kx_P) (s2 : Nat), kx_M l G ym dm 0 0 (.ref 93 :: Am) (mW M A L R) s2 (some v) (mW (upd M 0 0) A L R) s2) (hdc : dc ≤ 50 := by decide) (hdm : dm ≤ 50 := by decide) (hT : cvT ym v := by first | exact cvT_i (by decide) | exact cvT_i (fun h => by cases h) | exact cvT_l rfl) : cSt l G yc ym Ac Am P sz (M, A, L) se bl :=
  cSt_q h hdc hdm hc (upd M 0 0, A, L) (show upd M 0 0 0 = 0 from pk_us) cq_0 hm hT
theorem cl_ix {K7 M21 : Int32} {cl : Nat} (hcl : cl ≤ 8) (h7 : K7 = nI cl) (h21 : M21 = nI cl) (x : Int32) : (∃ c : Nat, c < cl ∧ x = nI c) ∨ ((x < 0 ∨ K7 ≤ x) ∧ ¬ (0 ≤ x ∧ x ≤ M21 - 1)) := by
  by_cases h : ∃ c : Nat, c < cl ∧ x = nI c
  · exact Or.inl h
  · exact Or.inr (cl_no hcl h7 h21 h)
theorem cs_fault (l : Launch) (G : kx_G) {P : kx_P} {sz : Nat} {M : Nat → Int32} {A : Nat → Nat → Int32} {L : Nat → Nat → Int64} {cl mi se : Nat} {bl : Nat → Nat} (h : cI P sz (M, A, L) cl mi se bl) : cSt l G sX10_fault sX11_fault [] [] P sz (M, A, L) se bl := by
  obtain ⟨K, h64, h69, h7, hcl, k2, k5, k10, k11, h21⟩ := cI_k h
  have hc := ct_X10_fault_t l G (sz := sz) h64
  rw [k5] at hc
  exact cSt_r h hc (fun R s2 => ct_X11_fault l G)
theorem cs_dial (l : Launch) (G : kx_G) (hst : l.stackTraces = false) {P : kx_P} {sz : Nat} {M : Nat → Int32} {A : Nat → Nat → Int32} {L : Nat → Nat → Int64} {cl mi se : Nat} {bl : Nat → Nat} (h : cI P sz (M, A, L) cl mi se bl) (x : Int32) : cSs l G sX10_dial sX11_dial [.int x] [.int x] P sz (M, A, L) se bl cS_N := by
  obtain ⟨K, h64, h69, h7, hcl, k2, k5, k10, k11, h21⟩ := cI_k h
  rcases cl_ix hcl h7 h21 x with ⟨c, hc, rfl⟩ | ⟨hx, hy⟩
  · obtain ⟨K', Al, V, T, Q, Fo, St, S1, C, Kp, -, -, -, -, H, hs, hq, hkq, hA, al0, al1, al3, hmi, h1, -, hv, hC, hkp, hg⟩ := cI_c h hc
    exact Or.inl (cSt_r h (ct_X10_dial_t l G h64 h69 h7 hcl hc hq) (fun R s2 => ct_X11_dial_t l G h21 hcl hc))
  · exact cSs_1 (cSx_q (by decide) (by decide) (Or.inl rfl) (ct_X10_dial_f l G hst h64 hx) (fun R s2 => ct_X11_dial_f l G hy))
theorem cs_error (l : Launch) (G : kx_G) (hst : l.stackTraces = false) {P : kx_P} {sz : Nat} {M : Nat → Int32} {A : Nat → Nat → Int32} {L : Nat → Nat → Int64} {cl mi se : Nat} {bl : Nat → Nat} (h : cI P sz (M, A, L) cl mi se bl) (x : Int32) : cSs l G sX10_error sX11_error [.int x] [.int x] P sz (M, A, L) se bl cS_N := by
  obtain ⟨K, h64, h69, h7, hcl, k2, k5, k10, k11, h21⟩ := cI_k h
  rcases cl_ix hcl h7 h21 x with ⟨c, hc, rfl⟩ | ⟨hx, hy⟩
  · obtain ⟨K', Al, V, T, Q, Fo, St, S1, C, Kp, -, -, -, -, H, hs, hq, hkq, hA, al0, al1, al3, hmi, h1, -, hv, hC, hkp, hg⟩ := cI_c h hc
    obtain ⟨a, ha, ea⟩ := hg.1.2.2
    have hm := fun (R : kx_P) (s2 : Nat) => ct_X11_error_t l G (A := A) (L := L) (R := R) (sz := s2) h21 hcl hc
    rw [ea] at hq
    rw [ea, h1] at hm
    exact Or.inl (cSt_r h (ct_X10_error_t l G h64 h69 h7 hcl hc hA ha hq al0 (by omega)) hm)
  · exact cSs_1 (cSx_q (by decide) (by decide) (Or.inl rfl) (ct_X10_error_f l G hst h64 hx) (fun R s2 => ct_X11_error_f l G hy))
theorem cs_rate (l : Launch) (G : kx_G) (hst : l.stackTraces = false) {P : kx_P} {sz : Nat} {M : Nat → Int32} {A : Nat → Nat → Int32} {L : Nat → Nat → Int64} {cl mi se : Nat} {bl : Nat → Nat} (h : cI P sz (M, A, L) cl mi se bl) (x : Int32) : cSs l G sX10_rate sX11_rate [.int x] [.int x] P sz (M, A, L) se bl cS_N := by
  obtain ⟨K, h64, h69, h7, hcl, k2, k5, k10, k11, h21⟩ := cI_k h
  rcases cl_ix hcl h7 h21 x with ⟨c, hc, rfl⟩ | ⟨hx, hy⟩
  · obtain ⟨K', Al, V, T, Q, Fo, St, S1, C, Kp, -, -, -, -, H, hs, hq, hkq, hA, al0, al1, al3, hmi, h1, -, hv, hC, hkp, hg⟩ := cI_c h hc
    have hcc := ct_X10_rate_t l G (sz := sz) h64 h69 h7 hcl hc H hs hq al0 hmi
    rw [cx_rt_eq (M := M) hv hg.1.2.1 hC.2.2.2.2.1 hC.2.2.2.2.2.2.2.1 hC.2.2.2.2.2.2.2.2 al3 rfl h1 hmi] at hcc
    refine Or.inl (cSt_r (dm := 3) h hcc (fun R s2 => ?_))
    obtain ⟨sd, hm, -⟩ := h
    obtain ⟨w, hw2, h2, -⟩ : ck_wo M A := hm.2.2.2.2.2.2.2.2.1
    have hd : M 1 / 60 = nI (mi / 60) := by rw [h1, show (60 : Int32) = nI 60 from rfl, pk_div (by omega) (by decide) (by decide)]
    by_cases hh : M 1 / 60 < M 2
    · simp only [ck_rt, ck_wm, if_pos hh]
      refine ct_X11_rate_t l G h21 hcl hc (ck_run0 hg.1.1.1) hh ?_
      rw [hd, h2, nI_ltI (by omega) (by omega)] at hh
      rw [hd]
      exact vp_in_nI (by omega) (by decide)
    · simp only [ck_rt, ck_wm, if_neg hh]
      exact ct_X11_rate_m l G h21 hcl hc (ck_run0 hg.1.1.1) hh
  · exact cSs_1 (cSx_q (by decide) (by decide) (Or.inl rfl) (ct_X10_rate_f l G hst h64 hx) (fun R s2 => ct_X11_rate_f l G hy))
theorem cs_kept (l : Launch) (G : kx_G) (hst : l.stackTraces = false) {P : kx_P} {sz : Nat} {M : Nat → Int32} {A : Nat → Nat → Int32} {L : Nat → Nat → Int64} {cl mi se : Nat} {bl : Nat → Nat} (h : cI P sz (M, A, L) cl mi se bl) (x y : Int32) : cSs l G sX10_kept sX11_kept [.int x, .int y] [.int x, .int y] P sz (M, A, L) se bl cS_N := by
  obtain ⟨K, h64, h69, h7, hcl, k2, k5, k10, k11, h21⟩ := cI_k h
  rcases cl_ix hcl h7 h21 x with ⟨c, hc, rfl⟩ | ⟨hx, hy⟩
  · obtain ⟨K', Al, V, T, Q, Fo, St, S1, C, Kp, -, -, -, -, H, hs, hq, hkq, hA, al0, al1, al3, hmi, h1, -, hv, hC, hkp, hg⟩ := cI_c h hc
    obtain ⟨-, -, -, -, -, -, -, -, -, -, ca, hca, e114⟩ := hg.2
    have e60 : ∀ q : Nat, (60 : Int32) * nI q = nI (60 * q) := fun q => pk_mul 60 q
    have hix : (∃ q : Nat, q < 1667 ∧ y = nI q) ∨ ¬ ∃ q : Nat, q < 1667 ∧ y = nI q := Classical.em _
    rcases hix with ⟨q, hq6, rfl⟩ | hno
    · have hk1 := hkp q hq6
      rw [e114, nI_clamp (by omega)] at hk1
      have hcc := ct_X10_kept_t l G (sz := sz) h64 h69 h7 hcl hc hq hkq hq6
      by_cases hk : 60 * q < mi ∧ ca ≤ 60 * q
      · rw [if_pos hk] at hk1
        rw [hk1] at hcc
        exact Or.inl (cSt_r h hcc (fun R s2 => ct_X11_kept_t l G h21 hcl hc (by omega) (by rw [e60, h1]; exact (nI_ltI (by omega) (by omega)).mpr hk.1) (by rw [e60, e114]; exact (nI_leI (by omega) (by omega)).mpr hk.2)))
      · rw [if_neg hk] at hk1
        rw [hk1] at hcc
        refine Or.inl (cSt_r h hcc (fun R s2 => ct_X11_kept_n l G h21 hcl hc (fun hz => hk ?_)))
        obtain ⟨-, -, z1, z2⟩ := hz
        rw [e60, h1, nI_ltI (by omega) (by omega)] at z1
        rw [e60, e114, nI_leI (by omega) (by omega)] at z2
        exact ⟨z1, z2⟩
    · refine Or.inl (cSt_r h (ct_X10_kept_n l G h64 h69 h7 hcl hc hq hkq ?_) (fun R s2 => ct_X11_kept_n l G h21 hcl hc (fun hz => hno ?_)))
      · rcases pk_ix y (n := 1667) (by decide) with a | a | a
        · exact Or.inl a
        · exact Or.inr a
        · exact absurd a hno
      · obtain ⟨z0, z3, z1, z2⟩ := hz
        rcases pk_ix y (n := 1700) (by decide) with a | a | ⟨q, hq7, rfl⟩
        · exact absurd z0 (Int32.not_le.mpr a)
        · exact absurd z3 (Int32.not_lt.mpr a)
        · rw [e60, h1, nI_ltI (by omega) (by omega)] at z1
          exact ⟨q, by omega, rfl⟩
  · exact cSs_1 (cSx_q (by decide) (by decide) (Or.inl rfl) (ct_X10_kept_f l G hst h64 hx) (fun R s2 => ct_X11_kept_f l G hy))
theorem cs_lawful (l : Launch) (G : kx_G) {P : kx_P} {sz : Nat} {M : Nat → Int32} {A : Nat → Nat → Int32} {L : Nat → Nat → Int64} {cl mi se : Nat} {bl : Nat → Nat} (h : cI P sz (M, A, L) cl mi se bl) (x y : Int32) : cSt l G sX10_lawful sX11_lawful [.int x, .int y] [.int x, .int y] P sz (M, A, L) se bl := by
  obtain ⟨K, h64, h69, h7, hcl, k2, k5, k10, k11, h21⟩ := cI_k h
  obtain ⟨sd, hm, ⟨-, -, -, -, -, -, -, -, -, -, -, -, -, -, -, -, -, -, -, ⟨Fl, p89, f3⟩, ⟨p90, p91, p92⟩, -⟩, -⟩ := id h
  obtain ⟨ln, l1, l2, l3⟩ := hm.2.2.2.2.2.2.2.2.2.2.2.2.2.2.2
  have l2 : M 80 = nI ln := l2
  have hcc := ct_X10_lawful_t l G (sz := sz) (i := x) (t := y) h64 p89 p90 p91 p92 (f3.trans l2) l1
  rw [(cx_lw_eq (A := A) ln l3).1] at hcc
  exact cSt_r h hcc (fun R s2 => ct_X11_lawful l G l2 l1)
theorem cs_sounding (l : Launch) (G : kx_G) (hst : l.stackTraces = false) {P : kx_P} {sz : Nat} {M : Nat → Int32} {A : Nat → Nat → Int32} {L : Nat → Nat → Int64} {cl mi se : Nat} {bl : Nat → Nat} (h : cI P sz (M, A, L) cl mi se bl) (x y : Int32) : cSs l G sX10_sounding sX11_sounding [.int x, .int y] [.int x, .int y] P sz (M, A, L) se bl cS_A := by
  obtain ⟨K, h64, h69, h7, hcl, k2, k5, k10, k11, h21⟩ := cI_k h
  by_cases hw : 0 ≤ y ∧ y ≤ 3
  · obtain ⟨sd, hm, ⟨-, -, -, -, -, -, -, ⟨Fs, p71, f4⟩, hSR, -⟩, -⟩ := id h
    obtain ⟨-, -, -, -, hmi, -, -, -, -, h22, hsd, -⟩ := hm
    have h22 : M 22 = nI sd := h22
    have hsd2 : sd < 2 ^ 29 := by omega
    by_cases hk : ∃ k : Nat, k < sd ∧ k < 200 ∧ x = nI k
    · obtain ⟨k, k1, k2, rfl⟩ := hk
      exact Or.inl (cSt_r h (ct_X10_sounding_t l G h64 p71 (f4.trans h22) hsd2 hSR hw.1 hw.2 k1 k2) (fun R s2 => ct_X11_sounding_t l G hw h22 k1 k2 (by omega)))
    · refine Or.inl (cSt_r h (ct_X10_sounding_n l G h64 p71 (f4.trans h22) hsd2 hw.1 hw.2 (fun hz => hk ?_)) (fun R s2 => ct_X11_sounding_n l G hw (fun hz => hk ?_)))
      · rcases pk_ix x (n := min sd 200) (by omega) with a | a | ⟨q, q1, q2⟩
        · exact absurd hz.1 (Int32.not_le.mpr a)
        · exact absurd hz.2 (Int32.not_lt.mpr a)
        · exact ⟨q, by omega, by omega, q2⟩
      · obtain ⟨z1, z2, z3⟩ := hz
        rcases pk_ix x (n := 200) (by omega) with a | a | ⟨q, q1, rfl⟩
        · exact absurd z1 (Int32.not_le.mpr a)
        · exact absurd z3 (Int32.not_lt.mpr a)
        · rw [h22, nI_ltI (by omega) (by omega)] at z2
          exact ⟨q, z2, q1, rfl⟩
  · exact cSs_1 (cSx_q (by decide) (by decide) (Or.inl rfl) (ct_X10_sounding_b l G hst h64 hw) (fun R s2 => ct_X11_sounding_b l G hw))
theorem cs_count (l : Launch) (G : kx_G) {P : kx_P} {sz : Nat} {M : Nat → Int32} {A : Nat → Nat → Int32} {L : Nat → Nat → Int64} {cl mi se : Nat} {bl : Nat → Nat} (h : cI P sz (M, A, L) cl mi se bl) (x : Int32) : cSt l G sX10_count sX11_count [.int x] [.int x] P sz (M, A, L) se bl := by
  obtain ⟨K, h64, h69, h7, hcl, k2, k5, k10, k11, h21⟩ := cI_k h
  obtain ⟨sd, hm, ⟨-, ⟨Al, p65, al0, al1, al3⟩, -, -, -, -, -, ⟨Fs, p71, f4⟩, -, -, -, -, -, -, -, -, -, ⟨Fr, p84, r4⟩, ⟨p85, p86, p87, p88⟩, ⟨Fl, p89, f3⟩, ⟨p90, p91, p92⟩, p1, -⟩, -⟩ := id h
  obtain ⟨-, -, -, h1, hmi, -, -, -, -, h22, hsd, -⟩ := hm
  have h1 : M 1 = nI mi := h1
  have h22 : M 22 = nI sd := h22
  have al0 : Al 0 = M 1 := al0
  have al1 : Al 1 = M 3 := al1
  have al3 : Al 3 = M 2 := al3
  have r4 : Fr 4 = M 71 := r4
  have f3 : Fl 3 = M 80 := f3
  have f4 : Fs 4 = M 22 := f4
  have hsd2 : sd < 2 ^ 29 := by omega
  have hm := fun (R : kx_P) (s2 : Nat) => ct_X11_count l G (A := A) (L := L) (R := R) (sz := s2) (w := x) h1 hmi
  by_cases e0 : x = 0
  · subst e0
    have hcc := ct_X10_count_0 l G (sz := sz) h64 p65 p84 p85 p86 p87 p88 p89 p90 p91 p92 p71 (f4.trans h22) hsd2 p1 (al0.trans h1) hmi
    rw [al0] at hcc
    exact cSt_r h hcc hm
  by_cases e1 : x = 1
  · subst e1
    have hcc := ct_X10_count_1 l G (sz := sz) h64 p65 p84 p85 p86 p87 p88 p89 p90 p91 p92 p71 (f4.trans h22) hsd2 p1 (al0.trans h1) hmi
    rw [h7.trans h21.symm] at hcc
    exact cSt_r h hcc hm
  by_cases e2 : x = 2
  · subst e2
    have hcc := ct_X10_count_2 l G (sz := sz) h64 p65 p84 p85 p86 p87 p88 p89 p90 p91 p92 p71 (f4.trans h22) hsd2 p1 (al0.trans h1) hmi
    rw [al3] at hcc
    exact cSt_r h hcc hm
  by_cases e3 : x = 3
  · subst e3
    have hcc := ct_X10_count_3 l G (sz := sz) h64 p65 p84 p85 p86 p87 p88 p89 p90 p91 p92 p71 (f4.trans h22) hsd2 p1 (al0.trans h1) hmi
    rw [r4] at hcc
    exact cSt_r h hcc hm
  by_cases e4 : x = 4
  · subst e4
    have hcc := ct_X10_count_4 l G (sz := sz) h64 p65 p84 p85 p86 p87 p88 p89 p90 p91 p92 p71 (f4.trans h22) hsd2 p1 (al0.trans h1) hmi
    rw [f3] at hcc
    exact cSt_r h hcc hm
  by_cases e5 : x = 5
  · subst e5
    have hcc := ct_X10_count_5 l G (sz := sz) h64 p65 p84 p85 p86 p87 p88 p89 p90 p91 p92 p71 (f4.trans h22) hsd2 p1 (al0.trans h1) hmi
    rw [f4] at hcc
    exact cSt_r h hcc hm
  by_cases e6 : x = 6
  · subst e6
    have hcc := ct_X10_count_6 l G (sz := sz) h64 p65 p84 p85 p86 p87 p88 p89 p90 p91 p92 p71 (f4.trans h22) hsd2 p1 (al0.trans h1) hmi
    rw [k2] at hcc
    exact cSt_r h hcc hm
  by_cases e7 : x = 7
  · subst e7
    have hcc := ct_X10_count_7 l G (sz := sz) h64 p65 p84 p85 p86 p87 p88 p89 p90 p91 p92 p71 (f4.trans h22) hsd2 p1 (al0.trans h1) hmi
    rw [al1] at hcc
    exact cSt_r h hcc hm
  by_cases e8 : x = 8
  · subst e8
    have hcc := ct_X10_count_8 l G (sz := sz) h64 p65 p84 p85 p86 p87 p88 p89 p90 p91 p92 p71 (f4.trans h22) hsd2 p1 (al0.trans h1) hmi
    rw [al1] at hcc
    exact cSt_r h hcc hm
  have ez : ck_count M mi x = -1 := by
    unfold ck_count
    rw [if_neg e0, if_neg e1, if_neg e2, if_neg e3, if_neg e4, if_neg e5, if_neg e6, if_neg e7, if_neg e8]
  rw [ez] at hm
  exact cSt_r h (ct_X10_count_o l G ⟨e0, e1, e2, e3, e4, e5, e6, e7, e8⟩) hm

/-! PURE: a text taken by a clock, both ways. -/
theorem ck_put_i {f g : Nat → Int32} {b n j : Nat} (hj : j < n) : ck_put f g b n (b + j) = g j := by
  unfold ck_put
  rw [if_pos ⟨by omega, by omega⟩]
  congr 1
  omega
theorem ck_put_o {f g : Nat → Int32} {b n j : Nat} (hj : j < b ∨ b + n ≤ j) : ck_put f g b n j = f j := by
  unfold ck_put
  rw [if_neg (by omega)]
/-- what stands behind takes -/
theorem ck_tk_in {A : Nat → Nat → Int32} {c w cd : Nat} {h : Int32} : (∀ j, j < 16 → ck_tk A c w cd h 102 (16 * c + j) = A 96 j) ∧ ck_tk A c w cd h 117 c = h ∧ ck_tk A c w cd h 103 c = nI w ∧ (∀ j, j < w → ck_tk A c w cd h 104 (24 * c + j) = A 99 j) ∧ ck_tk A c w cd h 105 c = nI cd ∧ ∀ j, j < cd → ck_tk A c w cd h 106 (400 * c + j) = A 97 j ∧ ck_tk A c w cd h 107 (400 * c + j) = A 98 j := by
  unfold ck_tk
  refine ⟨fun j hj => ?_, ?_, ?_, fun j hj => ?_, ?_, fun j hj => ⟨?_, ?_⟩⟩
  · rw [va_upn (by decide), va_upn (by decide), va_upn (by decide), va_upn (by decide), va_upn (by decide), va_upn (by decide), va_us, ck_put_i hj]
  · rw [va_upn (by decide), va_upn (by decide), va_upn (by decide), va_upn (by decide), va_upn (by decide), va_us, pk_us]
  · rw [va_upn (by decide), va_upn (by decide), va_upn (by decide), va_upn (by decide), va_us, pk_us]
  · rw [va_upn (by decide), va_upn (by decide), va_upn (by decide), va_us, ck_put_i hj]
  · rw [va_upn (by decide), va_upn (by decide), va_us, pk_us]
  · rw [va_upn (by decide), va_us, ck_put_i hj]
  · rw [va_us, ck_put_i hj]
theorem ck_tk_o {A : Nat → Nat → Int32} {c w cd : Nat} {h : Int32} {k : Nat} (hk : k ≠ 102 ∧ k ≠ 103 ∧ k ≠ 104 ∧ k ≠ 105 ∧ k ≠ 106 ∧ k ≠ 107 ∧ k ≠ 117) : ck_tk A c w cd h k = A k := by
  unfold ck_tk
  rw [va_upn (by omega), va_upn (by omega), va_upn (by omega), va_upn (by omega), va_upn (by omega), va_upn (by omega), va_upn (by omega)]
theorem ck_tk_ag {A : Nat → Nat → Int32} {c w cd : Nat} {h : Int32} (hw : w ≤ 24) (hcd : cd ≤ 400) {i : Nat} (hi : i < 8) (hc : c < 8) (hic : ¬ i = c) : cR_ag A (ck_tk A c w cd h) i := by
  refine ⟨fun k hk => ?_, fun j hj => ?_, fun j hj => ?_, fun j hj => ⟨?_, ?_⟩, fun j hj => ?_⟩
  · by_cases e : k ≠ 103 ∧ k ≠ 105 ∧ k ≠ 117
    · rw [ck_tk_o (by omega)]
    · rcases (show k = 103 ∨ k = 105 ∨ k = 117 by omega) with rfl | rfl | rfl
      · unfold ck_tk
        rw [va_upn (by decide), va_upn (by decide), va_upn (by decide), va_upn (by decide), va_us, pk_un hic]
      · unfold ck_tk
        rw [va_upn (by decide), va_upn (by decide), va_us, pk_un hic]
      · unfold ck_tk
        rw [va_upn (by decide), va_upn (by decide), va_upn (by decide), va_upn (by decide), va_upn (by decide), va_us, pk_un hic]
  · unfold ck_tk
    rw [va_upn (by decide), va_upn (by decide), va_upn (by decide), va_upn (by decide), va_upn (by decide), va_upn (by decide), va_us, ck_put_o (by omega)]
  · unfold ck_tk
    rw [va_upn (by decide), va_upn (by decide), va_upn (by decide), va_us, ck_put_o (by omega)]
  · unfold ck_tk
    rw [va_upn (by decide), va_us, ck_put_o (by omega)]
  · unfold ck_tk
    rw [va_us, ck_put_o (by omega)]
  · rw [ck_tk_o (by omega)]
theorem cR_new {A : Nat → Nat → Int32} {c n w cd : Nat} {T : Nat → Int32} {R : ck_Qt} {F V te qu Fo st : Nat → Int32} (hD : cx_D T n R F V te qu Fo st) (hv : cVe R) (hcd : R.1.2.2.2.2.1 = cd) (hcd4 : cd ≤ 400) (hw : R.2.2.1 = w) (hw24 : w ≤ 24)
    (h102 : ∀ j, j < 16 → A 102 (16 * c + j) = R.2.2.2.2.1 j) (h117 : A 117 c = R.2.2.2.1) (h103 : A 103 c = nI w) (h104 : ∀ j, j < w → A 104 (24 * c + j) = R.2.2.2.2.2 j) (h105 : A 105 c = nI cd) (h106 : ∀ j, j < cd → A 106 (400 * c + j) = R.1.2.2.2.2.2.1 j ∧ A 107 (400 * c + j) = R.1.2.2.2.2.2.2 j) : cR_v A c V te qu Fo st := by
  obtain ⟨⟨-, -, -, -, -, d6, d7⟩, ⟨v0, v1, v2, v3, v4, v5, v6, v7, v8, v9, v10, v11, vq⟩, t1, t2⟩ := hD
  dsimp only at d6 d7
  rw [hcd] at d6 d7
  refine ⟨⟨?_, ?_, ?_, ?_, ?_, ?_, ?_, ?_, ?_, ?_, ?_, ?_⟩, fun j hj => ?_, ?_, fun h0 => ?_, fun h0 => ?_⟩
  · rw [h102 0 (by omega)]; exact v0
  · rw [h102 1 (by omega)]; exact v1
  · rw [h102 2 (by omega)]; exact v2
  · rw [h102 3 (by omega)]; exact v3
  · rw [h102 4 (by omega)]; exact v4
  · rw [h102 15 (by omega)]; exact v5
  · rw [h102 5 (by omega)]; exact v6
  · rw [h102 14 (by omega)]; exact v7
  · rw [h102 13 (by omega)]; exact v8
  · rw [h102 10 (by omega)]; exact v9
  · rw [h102 11 (by omega)]; exact v10
  · rw [h102 12 (by omega)]; exact v11
  · rw [h102 (6 + j) (by omega)]; exact vq j hj
  · rw [h117]; exact t1
  · rw [h117] at h0
    have h1 : R.2.2.2.1 = 1 := by
      rcases hv with ⟨a, -⟩ | ⟨a, -⟩
      · exact absurd a h0
      · exact a
    obtain ⟨q1, q2⟩ := t2 h1
    rw [hw] at q1 q2
    rw [h103, nI_clamp (by omega)]
    exact ⟨q1, fun j hj => by rw [h104 j hj]; exact q2 j hj⟩
  · rw [h117] at h0
    have ho : okh R.1 1 := by
      rcases hv with ⟨-, b⟩ | ⟨a, -⟩
      · exact b
      · rw [a] at h0; exact absurd h0 (by decide)
    rw [h105, nI_clamp (by omega)]
    have ho1 := ho.1
    rw [hcd] at ho1
    refine cx_fw_cg (C := R.1.2.2.2.2.2.1) (N := R.1.2.2.2.2.2.2) ⟨d6, hcd4, d7, ho1⟩ h106
theorem cR_newg {A : Nat → Nat → Int32} {L : Nat → Nat → Int64} {c w cd : Nat} {R : ck_Qt} (hv : cVe R) (ht : cVt R.2.2.2.2.1) (hcd : R.1.2.2.2.2.1 = cd) (hcd4 : cd ≤ 400) (hw : R.2.2.1 = w) (hw24 : w ≤ 24)
    (h102 : ∀ j, j < 16 → A 102 (16 * c + j) = R.2.2.2.2.1 j) (h117 : A 117 c = R.2.2.2.1) (h103 : A 103 c = nI w) (h104 : ∀ j, j < w → A 104 (24 * c + j) = R.2.2.2.2.2 j) (h105 : A 105 c = nI cd) (h106 : ∀ j, j < cd → A 106 (400 * c + j) = R.1.2.2.2.2.2.1 j ∧ A 107 (400 * c + j) = R.1.2.2.2.2.2.2 j)
    (h110 : A 110 c = nI 0) (h108 : ∃ lf run : Nat, R.2.2.2.2.1 0 = nI run ∧ run ≤ 31 ∧ A 108 c = nI lf ∧ lf ≤ 1440 * run) (h109 : ∃ r : Nat, r ≤ 2000 ∧ A 109 c = nI r) (h115 : -20 ≤ (A 115 c).toInt ∧ (A 115 c).toInt ≤ 20) (h113 : ∃ o : Nat, A 113 c = nI o ∧ o ≤ 100000) (hL : ck_dl L c)
    (h111 : ∃ d : Nat, 1 ≤ d ∧ d ≤ 31 ∧ A 111 c = nI d) (h112 : ∃ m : Nat, 1 ≤ m ∧ m ≤ 12 ∧ A 112 c = nI m) (h100 : ∃ u v : Nat, u ≤ 99 ∧ v ≤ 99 ∧ A 100 c = nI u ∧ A 101 c = nI v) (h114 : ∃ ca : Nat, ca ≤ 100000 ∧ A 114 c = nI ca) : cR_g A L c := by
  obtain ⟨⟨run, r1, r2, r3⟩, t1, t2, t3, t4, t5, ⟨s, s1, s2⟩, tq, t12⟩ := ht
  obtain ⟨lf, run2, g1, g0, g2, g3⟩ := h108
  have hwh : ¬ A 117 c = 0 → 1 ≤ w ∧ ∀ j, j < w → ∃ t : Nat, t ≤ 12 ∧ R.2.2.2.2.2 j = nI t := by
    intro h0
    rw [h117] at h0
    rcases hv with ⟨a, -⟩ | ⟨-, a, -, b⟩
    · exact absurd a h0
    · rw [hw] at a b; exact ⟨a, b⟩
  have hrk : A 117 c = 0 → okh R.1 1 := by
    intro h0
    rw [h117] at h0
    rcases hv with ⟨-, b⟩ | ⟨a, -⟩
    · exact b
    · rw [a] at h0; exact absurd h0 (by decide)
  refine ⟨⟨⟨⟨run, r1, r2, by rw [h102 0 (by omega)]; exact r3⟩, ⟨0, w, h110, h103, hw24, fun h0 => (hwh h0).1⟩, cd, h105, hcd4, fun h0 k hk => ?_⟩, ⟨?_, ?_, ?_, ?_, ?_, h115, ⟨run, lf, r1, r2, by rw [h102 0 (by omega)]; exact r3, g2, ?_⟩, h113⟩, hL⟩, ?_⟩
  · have ho1 := (hrk h0).1
    rw [hcd] at ho1
    rw [(h106 k hk).1, ck_ht_cg k (fun j hj => (h106 j (by omega)).1)]
    exact ho1 k hk
  · rw [h102 1 (by omega)]; exact t1
  · rw [h102 2 (by omega)]; exact t2
  · rw [h102 3 (by omega)]; exact t3
  · rw [h102 4 (by omega)]; exact t4
  · rw [h102 15 (by omega)]; exact t5
  · rw [r3] at g1
    have : run = run2 := (nI_eq (by omega) (by omega)).mp g1
    omega
  · refine ⟨by rw [h102 12 (by omega)]; exact t12, fun j hj => by rw [h102 (6 + j) (by omega)]; exact tq j hj, h109, ⟨s, s1, by rw [h102 5 (by omega)]; exact s2⟩, ?_, fun h0 j hj => ?_, fun h0 => ?_, h111, h112, h100, h114⟩
    · rw [h117]
      rcases hv with ⟨a, -⟩ | ⟨a, -⟩
      · exact Or.inl a
      · exact Or.inr a
    · rw [h103, nI_clamp (by omega)] at hj
      rw [h104 j hj]
      exact (hwh h0).2 j hj
    · rw [h105, nI_clamp (by omega)]
      have ho := (hrk h0).2
      rw [hcd] at ho
      by_cases e : cd = 0
      · rw [e] at ho
        have ho : (0 : Nat) = 1 := ho
        omega
      · omega

/-! PURE: rate; readings; the law, both ways. -/
theorem cx_rt_eq {M : Nat → Int32} {A : Nat → Nat → Int32} {i mi : Nat} {V T Q Fo St C Al Wm : Nat → Int32} (hv : cR_v A i V T Q Fo St) (hr : ck_rg A i) (c6 : C 6 = A 108 i) (c9 : C 9 = A 115 i) (c10 : C 10 = A 113 i / 1440) (a3 : Al 3 = M 2) (hW : Wm = A 94) (h1 : M 1 = nI mi) (hmi : mi ≤ 100000) : cx_rt V C Al Wm mi = ck_rt M A i := by
  obtain ⟨⟨v0, v1, v2, v3, v4, v5, -⟩, -⟩ := hv
  obtain ⟨-, -, -, -, -, -, ⟨run, lf, hr1, hr31, er, el, hlf⟩, -⟩ := hr
  unfold cx_rt ck_rt ck_rate ck_wm
  rw [v0, v1, v2, v3, v4, v5, c6, c9, c10, a3, hW, h1, show (60 : Int32) = nI 60 from rfl, pk_div (by omega) (by decide) (by decide), nI_clamp (by omega)]
  have h14 : (1 : Int32) ≤ 1440 * A 102 (16 * i + 0) := by
    rw [er, show (1440 : Int32) = nI 1440 from rfl, pk_mul]
    exact (nI_leI (a := 1) (b := 1440 * run) (by omega) (by omega)).mpr (by omega)
  rw [if_pos h14]
/-- what the class has recalled of some readings, and the reference -/
def cR_q (F : Nat → Int32) (q : ck_Q) : Prop :=
  (F 5 = 0 ∧ q.1 = -1 ∧ q.2.1 = -1) ∨
  (F 5 = 1 ∧ q.1 = -1 ∧ F 8 = q.2.1 ∧ F 9 = q.2.2.2 ∧ ∃ m : Nat, m ≤ 100000 ∧ q.2.1 = nI m) ∨
  (F 5 = 2 ∧ F 6 = q.1 ∧ F 7 = q.2.2.1 ∧ F 8 = q.2.1 ∧ F 9 = q.2.2.2 ∧ ∃ m n : Nat, n < m ∧ m ≤ 100000 ∧ q.2.1 = nI m ∧ q.1 = nI n)
theorem nI_m1 {n : Nat} (h : n ≤ 200000) : ¬ nI n = -1 := fun z => by
  have h1 : (nI n).toInt = (-1 : Int32).toInt := by rw [z]
  rw [nI_toInt (by omega), show (-1 : Int32).toInt = -1 by decide] at h1
  omega
theorem nI_m1l {n : Nat} (h : n ≤ 200000) : (-1 : Int32) < nI n := by
  rw [Int32.lt_iff_toInt_lt, nI_toInt (by omega), show (-1 : Int32).toInt = -1 by decide]
  omega
theorem cR_q_we {F : Nat → Int32} {q : ck_Q} (h : cR_q F q) {m : Nat} (hm : m ≤ 100000) (e : Int32) : cR_q (cx_we F (nI m) e) (ck_ft1 q (nI m) e) := by
  have hm1 := nI_m1 (n := m) (by omega)
  unfold cx_we ck_ft1
  rcases h with ⟨h5, h1, h2⟩ | ⟨h5, h1, h8, h9, m2, hm2, e2⟩ | ⟨h5, h6, h7, h8, h9, m2, m1, h12, hm2, e2, e1⟩
  · rw [h2, if_neg hm1, if_pos (nI_m1l (by omega)), h5, if_neg (by decide), if_pos rfl]
    refine Or.inr (Or.inl ⟨?_, rfl, ?_, ?_, m, hm, rfl⟩)
    · rw [pk_us]; rfl
    · rw [pk_un (by decide), pk_un (by decide), pk_us]
    · rw [pk_un (by decide), pk_us]
  · rw [h5, h8, e2, if_pos (by decide)]
    by_cases c1 : nI m = nI m2
    · rw [if_pos c1, if_pos c1]
      refine Or.inr (Or.inl ⟨?_, h1, ?_, ?_, m2, hm2, rfl⟩)
      · rw [pk_un (by decide)]; exact h5
      · rw [pk_un (by decide)]; exact h8.trans e2
      · rw [pk_us]
    · rw [if_neg c1, if_neg c1, if_neg (by decide)]
      by_cases c2 : nI m2 < nI m
      · have c2' := (nI_ltI (by omega) (by omega)).mp c2
        rw [if_pos c2, if_pos c2]
        refine Or.inr (Or.inr ⟨?_, ?_, ?_, ?_, ?_, m, m2, c2', hm, rfl, rfl⟩)
        · rw [pk_us]; rfl
        · rw [pk_un (by decide), pk_un (by decide), pk_un (by decide), pk_un (by decide), pk_us]
        · rw [pk_un (by decide), pk_un (by decide), pk_un (by decide), pk_us, h9]
        · rw [pk_un (by decide), pk_un (by decide), pk_us]
        · rw [pk_un (by decide), pk_us]
      · have c2' : ¬ m2 < m := fun z => c2 ((nI_ltI (by omega) (by omega)).mpr z)
        have c1' : ¬ m = m2 := fun z => c1 (by rw [z])
        rw [if_neg c2, if_neg c2, if_pos rfl, h1, if_pos (Int32.le_of_lt (nI_m1l (by omega)))]
        refine Or.inr (Or.inr ⟨?_, ?_, ?_, ?_, ?_, m2, m, by omega, hm2, rfl, rfl⟩)
        · rw [pk_us]
        · rw [pk_un (by decide), pk_un (by decide), pk_us]
        · rw [pk_un (by decide), pk_us]
        · rw [pk_un (by decide), pk_un (by decide), pk_un (by decide)]; exact h8.trans e2
        · rw [pk_un (by decide), pk_un (by decide), pk_un (by decide)]; exact h9
  · rw [h5, h8, e2, h6, e1, if_pos (by decide)]
    by_cases c1 : nI m = nI m2
    · rw [if_pos c1, if_pos c1]
      refine Or.inr (Or.inr ⟨?_, ?_, ?_, ?_, ?_, m2, m1, h12, hm2, rfl, rfl⟩)
      · rw [pk_un (by decide)]; exact h5
      · rw [pk_un (by decide)]; exact h6.trans e1
      · rw [pk_un (by decide)]; exact h7
      · rw [pk_un (by decide)]; exact h8.trans e2
      · rw [pk_us]
    · rw [if_neg c1, if_neg c1, if_neg (by decide)]
      by_cases c2 : nI m2 < nI m
      · have c2' := (nI_ltI (by omega) (by omega)).mp c2
        rw [if_pos c2, if_pos c2]
        refine Or.inr (Or.inr ⟨?_, ?_, ?_, ?_, ?_, m, m2, c2', hm, rfl, rfl⟩)
        · rw [pk_us]; rfl
        · rw [pk_un (by decide), pk_un (by decide), pk_un (by decide), pk_un (by decide), pk_us]
        · rw [pk_un (by decide), pk_un (by decide), pk_un (by decide), pk_us, h9]
        · rw [pk_un (by decide), pk_un (by decide), pk_us]
        · rw [pk_un (by decide), pk_us]
      · have c2' : ¬ m2 < m := fun z => c2 ((nI_ltI (by omega) (by omega)).mpr z)
        have c1' : ¬ m = m2 := fun z => c1 (by rw [z])
        rw [if_neg c2, if_neg c2, if_neg (by decide)]
        by_cases c3 : nI m1 ≤ nI m
        · rw [if_pos c3, if_pos c3]
          refine Or.inr (Or.inr ⟨?_, ?_, ?_, ?_, ?_, m2, m, by omega, hm2, rfl, rfl⟩)
          · rw [pk_us]
          · rw [pk_un (by decide), pk_un (by decide), pk_us]
          · rw [pk_un (by decide), pk_us]
          · rw [pk_un (by decide), pk_un (by decide), pk_un (by decide)]; exact h8.trans e2
          · rw [pk_un (by decide), pk_un (by decide), pk_un (by decide)]; exact h9
        · rw [if_neg c3, if_neg c3]
          exact Or.inr (Or.inr ⟨h5, h6, h7, h8, h9, m2, m1, h12, hm2, e2, e1⟩)
theorem cR_q_rc {A : Nat → Nat → Int32} {F : Nat → Int32} {c t e1 e2 : Int32} : ∀ k, (∀ j, j < k → ∃ m : Nat, m ≤ 100000 ∧ A 131 j = nI m) → cR_q (cx_rc F (A 130) (A 131) (A 132) (A 133) c t k) (ck_ft A c t e1 e2 k) := by
  intro k
  induction k with
  | zero =>
    intro _
    refine Or.inl ⟨?_, rfl, rfl⟩
    rw [cx_rc, pk_us]
  | succ k ih =>
    intro hm
    have ih := ih (fun j hj => hm j (by omega))
    obtain ⟨m, hm9, em⟩ := hm k (Nat.lt_succ_self _)
    rw [cx_rc, ck_ft]
    split
    · split
      · rw [em]
        exact cR_q_we ih hm9 _
      · exact ih
    · exact ih
theorem cR_sub {m n : Nat} (h : n < m) (hm : m ≤ 100000) : (nI m - nI n).toInt64 = lN (m - n) ∧ 0 < (nI m - nI n).toInt64.toInt := by
  rw [pk_sub (by omega), nI_l (by omega)]
  refine ⟨rfl, ?_⟩
  rw [pk_lT (by omega)]
  omega
/-- the ERROR reckoned -/
theorem cx_ea_eq {F : Nat → Int32} {q : ck_Q} (h : cR_q F q) (x : Int32) : cx_ea F x = if q.2.1 = -1 then -2000000000 else ck_rk q x := by
  unfold cx_ea ck_rk
  rcases h with ⟨h5, h1, h2⟩ | ⟨h5, h1, h8, h9, m2, hm2, e2⟩ | ⟨h5, h6, h7, h8, h9, m2, m1, h12, hm2, e2, e1⟩
  · rw [h5, if_pos rfl, if_pos h2]
  · rw [h5, if_neg (by decide), if_pos rfl, if_neg (by rw [e2]; exact nI_m1 (by omega)), if_pos h1, h9]
  · have hne : ¬ nI m2 = nI m1 := fun z => by have := (nI_eq (by omega) (by omega)).mp z; omega
    rw [h5, if_neg (by decide), if_neg (by decide), h8, h6, e2, e1, if_neg hne, if_neg (nI_m1 (n := m2) (by omega)), if_neg (nI_m1 (n := m1) (by omega)), h9, h7, cj_fdL_dn (cR_sub h12 hm2).2]
/-- the rate reckoned -/
theorem cx_rr_eq {F : Nat → Int32} {q : ck_Q} (h : cR_q F q) : cx_rr F = if q.1 = -1 then -2000000000 else ck_sp q := by
  unfold cx_rr ck_sp
  rcases h with ⟨h5, h1, h2⟩ | ⟨h5, h1, h8, h9, m2, hm2, e2⟩ | ⟨h5, h6, h7, h8, h9, m2, m1, h12, hm2, e2, e1⟩
  · rw [h5, if_pos (by decide), if_pos h1]
  · rw [h5, if_pos (by decide), if_pos h1]
  · have hne : ¬ nI m2 = nI m1 := fun z => by have := (nI_eq (by omega) (by omega)).mp z; omega
    have h60 : 0 < (60 * (nI m2 - nI m1).toInt64).toInt := by
      rw [(cR_sub h12 hm2).1, show (60 : Int64) = lN 60 from rfl, lN_mul, pk_lT (by omega)]
      omega
    rw [h5, if_neg (by decide), h8, h6, e2, e1, if_neg hne, if_neg (nI_m1 (n := m1) (by omega)), h9, h7, cj_fdL_dn h60]
theorem cR_q_5 {F : Nat → Int32} {q : ck_Q} (h : cR_q F q) : (F 5 < 2 ↔ q.1 = -1) ∧ (F 5 = 0 ↔ q.2.1 = -1) := by
  rcases h with ⟨h5, h1, h2⟩ | ⟨h5, h1, h8, h9, m2, hm2, e2⟩ | ⟨h5, h6, h7, h8, h9, m2, m1, h12, hm2, e2, e1⟩
  · rw [h5, h1, h2]; exact ⟨⟨fun _ => rfl, fun _ => by decide⟩, ⟨fun _ => rfl, fun _ => rfl⟩⟩
  · rw [h5, h1, e2]
    exact ⟨⟨fun _ => rfl, fun _ => by decide⟩, ⟨fun z => absurd z (by decide), fun z => absurd z (nI_m1 (by omega))⟩⟩
  · rw [h5, e1, e2]
    exact ⟨⟨fun z => absurd z (by decide), fun z => absurd z (nI_m1 (by omega))⟩, ⟨fun z => absurd z (by decide), fun z => absurd z (nI_m1 (by omega))⟩⟩
/-- the law -/
theorem cx_lw_eq {A : Nat → Nat → Int32} {x t : Int32} : ∀ k, (∀ j, j < k → ∃ m : Nat, m ≤ 100000 ∧ A 135 j = nI m) → ((cx_lw (A 134) (A 135) (A 136) x t k).1 = ck_lwr A (ck_lw A x t k) ∧ (cx_lw (A 134) (A 135) (A 136) x t k).2 = (match ck_lw A x t k with | none => 0 | some j => A 135 j)) := by
  intro k
  induction k with
  | zero => intro _; exact ⟨rfl, rfl⟩
  | succ k ih =>
    intro hm
    obtain ⟨i1, i2⟩ := ih (fun j hj => hm j (by omega))
    obtain ⟨m, hm9, em⟩ := hm k (Nat.lt_succ_self _)
    rw [cx_lw, ck_lw, i2]
    by_cases h1 : A 136 k ≤ t
    · rw [if_pos h1, if_pos h1]
      by_cases h2 : A 135 k ≤ x
      · rw [if_pos h2, if_pos h2]
        cases hl : ck_lw A x t k with
        | none =>
          dsimp only
          rw [if_pos (by rw [em]; exact nI_pos' (by omega))]
          exact ⟨rfl, rfl⟩
        | some j =>
          dsimp only
          by_cases h3 : A 135 j ≤ A 135 k
          · rw [if_pos h3, if_pos h3]
            exact ⟨rfl, rfl⟩
          · rw [if_neg h3, if_neg h3]
            rw [hl] at i1 i2
            exact ⟨i1, i2⟩
      · rw [if_neg h2, if_neg h2]
        exact ⟨i1, i2⟩
    · rw [if_neg h1, if_neg h1]
      exact ⟨i1, i2⟩

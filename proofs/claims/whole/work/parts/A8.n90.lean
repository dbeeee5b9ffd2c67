/-! numbers and words: the class's way and the model's -/
theorem cx_dgI {t : Int32} (h : 48 ≤ t ∧ t ≤ 57) : ∃ k : Nat, t = nI k ∧ 48 ≤ k ∧ k ≤ 57 := by
  have h0 : ¬ t < 0 := by
    intro q
    have := Int32.lt_iff_toInt_lt.mp q
    have h1 := Int32.le_iff_toInt_le.mp h.1
    have e1 : (48 : Int32).toInt = 48 := by decide
    have e2 : (0 : Int32).toInt = 0 := by decide
    omega
  obtain ⟨k, hk, rfl⟩ := nI_of h0
  exact ⟨k, rfl, (nI_leI (a := 48) (b := k) (by omega) hk).mp h.1, (nI_leI (a := k) (b := 57) hk (by omega)).mp h.2⟩
theorem cx_stp {x k : Nat} (hx : x ≤ 100009) (h1 : 48 ≤ k) (h2 : k ≤ 57) : 10 * nI x + nI k - 48 = nI (10 * x + (k - 48)) := by
  rw [show (10 : Int32) * nI x = nI (10 * x) from (Int32.ofNat_mul 10 x).symm, nI_add, show (48 : Int32) = nI 48 from rfl, pk_sub (a := 10 * x + k) (b := 48) (by omega), show 10 * x + k - 48 = 10 * x + (k - 48) by omega]
theorem cx_dg (T : Nat → Int32) : ∀ (f a x y : Nat), x ≤ 100009 → y ≤ 100009 → (x = y ∨ 10000 < x ∧ 10000 < y) →
    ∃ x2 y2 : Nat, cx_dgf T f a (nI x) = (nI x2, (ck_dgf T f a (nI y)).2) ∧ (ck_dgf T f a (nI y)).1 = nI y2 ∧ x2 ≤ 100009 ∧ y2 ≤ 100009 ∧ (x2 = y2 ∨ 10000 < x2 ∧ 10000 < y2) := by
  intro f
  induction f with
  | zero => exact fun a x y h1 h2 h3 => ⟨x, y, rfl, rfl, h1, h2, h3⟩
  | succ f ih =>
    intro a x y hx hy hxy
    by_cases hd : 48 ≤ T a ∧ T a ≤ 57
    · obtain ⟨k, hk, k1, k2⟩ := cx_dgI hd
      have e1 : cx_dgf T (f + 1) a (nI x) = cx_dgf T f (a + 1) (nI (min 100000 (10 * x + (k - 48)))) := by
        show (if 48 ≤ T a ∧ T a ≤ 57 then cx_dgf T f (a + 1) (cj_min 100000 (10 * nI x + T a - 48)) else (nI x, a)) = _
        rw [if_pos hd, hk, cx_stp hx k1 k2, show (100000 : Int32) = nI 100000 from rfl, cj_min_n (by omega) (by omega)]
      have e2 : ck_dgf T (f + 1) a (nI y) = ck_dgf T f (a + 1) (nI (if 10000 < y then 100000 else 10 * y + (k - 48))) := by
        show (if 48 ≤ T a ∧ T a ≤ 57 then ck_dgf T f (a + 1) (if 10000 < nI y then 100000 else 10 * nI y + T a - 48) else (nI y, a)) = _
        rw [if_pos hd]
        by_cases hy2 : 10000 < y
        · rw [if_pos hy2, if_pos (show (10000 : Int32) < nI y from (nI_ltI (a := 10000) (b := y) (by omega) (by omega)).mpr hy2)]
          rfl
        · rw [if_neg hy2, if_neg (show ¬ (10000 : Int32) < nI y from fun q => hy2 ((nI_ltI (a := 10000) (b := y) (by omega) (by omega)).mp q)), hk, cx_stp hy k1 k2]
      rw [e1, e2]
      refine ih (a + 1) _ _ (by omega) (by split <;> omega) ?_
      by_cases hy2 : 10000 < y
      · rw [if_pos hy2]; left; omega
      · rw [if_neg hy2]
        rcases hxy with rfl | h
        · by_cases h9 : x ≤ 9999
          · left; omega
          · right; omega
        · omega
    · refine ⟨x, y, ?_, ?_, hx, hy, hxy⟩
      · show (if 48 ≤ T a ∧ T a ≤ 57 then cx_dgf T f (a + 1) (cj_min 100000 (10 * nI x + T a - 48)) else (nI x, a)) = (nI x, (if 48 ≤ T a ∧ T a ≤ 57 then ck_dgf T f (a + 1) (if 10000 < nI y then 100000 else 10 * nI y + T a - 48) else (nI y, a)).2)
        rw [if_neg hd, if_neg hd]
      · show (if 48 ≤ T a ∧ T a ≤ 57 then ck_dgf T f (a + 1) (if 10000 < nI y then 100000 else 10 * nI y + T a - 48) else (nI y, a)).1 = nI y
        rw [if_neg hd]
theorem cx_dg0 (T : Nat → Int32) (f a : Nat) {lo hi : Nat} (h : hi ≤ 10000) : (cx_dgf T f a 0).2 = (ck_dgf T f a 0).2 ∧ ((nI lo ≤ (cx_dgf T f a 0).1 ∧ (cx_dgf T f a 0).1 ≤ nI hi) ↔ (nI lo ≤ (ck_dgf T f a 0).1 ∧ (ck_dgf T f a 0).1 ≤ nI hi)) ∧ ((cx_dgf T f a 0).1 ≤ nI hi → (cx_dgf T f a 0).1 = (ck_dgf T f a 0).1) := by
  obtain ⟨x, y, e1, e2, h1, h2, h3⟩ := cx_dg T f a 0 0 (by omega) (by omega) (Or.inl rfl)
  have e1 : cx_dgf T f a 0 = (nI x, (ck_dgf T f a 0).2) := e1
  have e2 : (ck_dgf T f a 0).1 = nI y := e2
  have f1 : (cx_dgf T f a 0).1 = nI x := by rw [e1]
  have f2 : (cx_dgf T f a 0).2 = (ck_dgf T f a 0).2 := by rw [e1]
  rw [f1, e2]
  refine ⟨f2, ?_, fun q => ?_⟩
  · rcases h3 with rfl | h3
    · exact Iff.rfl
    · constructor
      · intro q; exact absurd ((nI_leI (a := x) (b := hi) (by omega) (by omega)).mp q.2) (by omega)
      · intro q; exact absurd ((nI_leI (a := y) (b := hi) (by omega) (by omega)).mp q.2) (by omega)
  · have := (nI_leI (a := x) (b := hi) (by omega) (by omega)).mp q
    rcases h3 with rfl | h3
    · rfl
    · omega
/-- a number taken: where it stands then; in a fault too -/
theorem cx_nu2 {l : Launch} {G : kx_G} {P : kx_P} {sz : Nat} {T F : Nat → Int32} {x : Value} (hT : P 67 = kI 0 400 T) {n a : Nat} (h1 : F 1 = nI n) (hn : n ≤ 400) (h2 : F 2 = nI (ck_sk T n a)) (ha : a ≤ n) (h4 : F 4 = 0) {lo hi : Nat} (hh : hi ≤ 10000) (k : Int32) :
    ∃ v F2, kx_M l G sX8_takeNumber 2 0 0 [.ref 68, .int (nI lo), .int (nI hi)] (cx_8 P x F) sz (some (.int v)) (cx_8 P x F2) sz ∧
      ((ck_num T n (nI lo) (nI hi) a (-1) k).2.2.1 = -1 → v = (ck_num T n (nI lo) (nI hi) a (-1) k).1 ∧ F2 1 = nI n ∧ F2 2 = nI (ck_sk T n (ck_num T n (nI lo) (nI hi) a (-1) k).2.1) ∧ F2 3 = F 3 ∧ F2 4 = 0 ∧ F2 5 = F 5 ∧ F2 8 = nI (ck_sk T n a)) ∧
      (¬ (ck_num T n (nI lo) (nI hi) a (-1) k).2.2.1 = -1 → F2 4 = (ck_num T n (nI lo) (nI hi) a (-1) k).2.2.2 ∧ F2 5 = (ck_num T n (nI lo) (nI hi) a (-1) k).2.2.1 ∧ ¬ F2 4 = 0) ∧ F2 1 = nI n ∧ ∃ c, F2 2 = nI c ∧ c ≤ n := by
  have hle := ck_sk_le T ha
  unfold ck_num
  rw [if_pos rfl]
  by_cases hd : 48 ≤ ck_hcx T n a ∧ ck_hcx T n a ≤ 57
  · rw [if_pos hd]
    obtain ⟨d1, d2, d3⟩ := cx_dg0 T (n - ck_sk T n a) (ck_sk T n a) (lo := lo) hh
    have hdl := ck_dgf_le T (n - ck_sk T n a) (ck_sk T n a) 0
    refine ⟨_, _, ct_X8_takeNumber_t l G (x := x) hT h1 hn h2 hle.2 hd, ?_⟩
    by_cases hr : nI lo ≤ (ck_dgf T (n - ck_sk T n a) (ck_sk T n a) 0).1 ∧ (ck_dgf T (n - ck_sk T n a) (ck_sk T n a) 0).1 ≤ nI hi
    · rw [if_pos hr]
      have hr2 := d2.mpr hr
      refine ⟨fun _ => ?_, fun q => absurd rfl q, by unfold cx_nF; rw [if_pos hr2]; exact ⟨h1, _, rfl, (ck_sk_le T (by rw [d1]; omega)).2⟩⟩
      unfold cx_nv cx_nF
      rw [if_pos hr2, if_pos hr2]
      refine ⟨d3 hr2.2, h1, ?_, rfl, h4, rfl, rfl⟩
      show nI (ck_sk T n (cx_dgf T (n - ck_sk T n a) (ck_sk T n a) 0).2) = _
      rw [d1]
    · rw [if_neg hr]
      have hr2 := fun q => hr (d2.mp q)
      unfold cx_nF
      rw [if_neg hr2]
      unfold cx_rf
      rw [if_pos (show upd (upd F 8 (nI (ck_sk T n a))) 2 (nI (ck_sk T n (cx_dgf T (n - ck_sk T n a) (ck_sk T n a) 0).2)) 4 = 0 from h4)]
      exact ⟨fun q => absurd q (ck_m1 _ (by omega)), fun _ => ⟨rfl, rfl, show ¬ (2 : Int32) = 0 by decide⟩, h1, _, rfl, (ck_sk_le T (by rw [d1]; omega)).2⟩
  · rw [if_neg hd]
    refine ⟨_, _, ct_X8_takeNumber_f l G (x := x) hT h1 hn h2 hle.2 hd, ?_⟩
    unfold cx_rf
    rw [if_pos (show upd F 8 (nI (ck_sk T n a)) 4 = 0 from h4)]
    exact ⟨fun q => absurd q (ck_m1 _ (by omega)), fun _ => ⟨rfl, rfl, show ¬ (1 : Int32) = 0 by decide⟩, h1, _, h2, hle.2⟩
theorem cx_nu {l : Launch} {G : kx_G} {P : kx_P} {sz : Nat} {T F : Nat → Int32} {x : Value} (hT : P 67 = kI 0 400 T) {n a : Nat} (h1 : F 1 = nI n) (hn : n ≤ 400) (h2 : F 2 = nI (ck_sk T n a)) (ha : a ≤ n) (h4 : F 4 = 0) {lo hi : Nat} (hh : hi ≤ 10000) (k : Int32) :
    ∃ v F2, kx_M l G sX8_takeNumber 2 0 0 [.ref 68, .int (nI lo), .int (nI hi)] (cx_8 P x F) sz (some (.int v)) (cx_8 P x F2) sz ∧
      ((ck_num T n (nI lo) (nI hi) a (-1) k).2.2.1 = -1 → v = (ck_num T n (nI lo) (nI hi) a (-1) k).1 ∧ F2 1 = nI n ∧ F2 2 = nI (ck_sk T n (ck_num T n (nI lo) (nI hi) a (-1) k).2.1) ∧ F2 3 = F 3 ∧ F2 4 = 0 ∧ F2 5 = F 5 ∧ F2 8 = nI (ck_sk T n a)) ∧
      (¬ (ck_num T n (nI lo) (nI hi) a (-1) k).2.2.1 = -1 → F2 4 = (ck_num T n (nI lo) (nI hi) a (-1) k).2.2.2 ∧ F2 5 = (ck_num T n (nI lo) (nI hi) a (-1) k).2.2.1 ∧ ¬ F2 4 = 0) := by
  obtain ⟨v, F2, z1, z2, z3, -⟩ := cx_nu2 (l := l) (G := G) (sz := sz) (x := x) hT h1 hn h2 ha h4 (lo := lo) hh k
  exact ⟨v, F2, z1, z2, z3⟩

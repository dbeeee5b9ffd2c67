/-! PURE: pennies regulated, errors beyond, both ways. -/
theorem cj_td {x n : Int} (hn : 0 < n) : (0 ≤ x → 0 ≤ x.tdiv n ∧ x.tdiv n ≤ x) ∧ (x ≤ 0 → x.tdiv n ≤ 0 ∧ x ≤ x.tdiv n) := by
  have pos : ∀ z : Int, 0 ≤ z → 0 ≤ z.tdiv n ∧ z.tdiv n ≤ z := by
    intro z hz
    have h3 : 0 ≤ z.tdiv n := Int.tdiv_nonneg hz (by omega)
    have h2 := Int.tmod_def z n
    have h1 : 0 ≤ z.tmod n := Int.tmod_nonneg _ hz
    have h4 := Int.mul_nonneg (show 0 ≤ n - 1 by omega) h3
    rw [Int.sub_mul, Int.one_mul] at h4
    omega
  refine ⟨pos x, fun hx => ?_⟩
  obtain ⟨h1, h2⟩ := pos (-x) (by omega)
  rw [Int.neg_tdiv] at h1 h2
  omega
theorem ck_dn_i {x y : Int64} (hy : 0 < y.toInt) (hx : -4611686018427387904 ≤ x.toInt ∧ x.toInt ≤ 4611686018427387904) : (ck_dn x y).toInt = x.toInt / y.toInt := by
  obtain ⟨p1, p2⟩ := cj_td (x := x.toInt) hy
  have hd : (x / y).toInt = x.toInt.tdiv y.toInt := by
    rw [Int64.toInt_div]
    refine Int.bmod_eq_of_le ?_ ?_ <;> (by_cases h : 0 ≤ x.toInt; have := p1 h; omega; have := p2 (by omega); omega)
  have hr := cj_remL x y
  have e1 : (x / y * y).toInt = x.toInt - x.toInt.tmod y.toInt := by
    rw [Int64.toInt_mul, Int64.toInt_div, Int.bmod_mul_bmod]
    have h5 : x.toInt.tdiv y.toInt * y.toInt = x.toInt - x.toInt.tmod y.toInt := by have := Int.tmod_def x.toInt y.toInt; rw [Int.mul_comm]; omega
    rw [h5]
    by_cases hx : x.toInt < 0
    · have h3 := cj_tn hy (show x.toInt ≤ 0 by omega)
      exact Int.bmod_eq_of_le (by omega) (by omega)
    · have h3 := cj_tp hy (show 0 ≤ x.toInt by omega)
      exact Int.bmod_eq_of_le (by omega) (by omega)
  have hb := tmod_bounds (a := x.toInt) hy
  have h5 := Int.tmod_def x.toInt y.toInt
  have key : ∀ q r : Int, 0 ≤ r → r < y.toInt → x.toInt = y.toInt * q + r → x.toInt / y.toInt = q := by
    intro q r h0 h1 h2
    rw [h2, Int.add_comm, Int.add_mul_ediv_left _ _ (by omega), Int.ediv_eq_zero_of_lt h0 h1, Int.zero_add]
  unfold ck_dn
  by_cases h : x < x / y * y
  · have h2 : x.toInt < x.toInt - x.toInt.tmod y.toInt := by rw [← e1]; exact Int64.lt_iff_toInt_lt.mp h
    rw [if_pos h, key (x.toInt.tdiv y.toInt - 1) (x.toInt.tmod y.toInt + y.toInt) (by omega) (by omega) (by rw [Int.mul_sub, Int.mul_one]; omega)]
    rw [fb_subL (by rw [hd, show (1 : Int64).toInt = 1 from rfl]; by_cases h : 0 ≤ x.toInt; have := p1 h; omega; have := p2 (by omega); omega) (by rw [hd, show (1 : Int64).toInt = 1 from rfl]; by_cases h : 0 ≤ x.toInt; have := p1 h; omega; have := p2 (by omega); omega), hd]
    rfl
  · have h2 : ¬ x.toInt < x.toInt - x.toInt.tmod y.toInt := by rw [← e1]; exact fun z => h (Int64.lt_iff_toInt_lt.mpr z)
    rw [if_neg h, hd, key (x.toInt.tdiv y.toInt) (x.toInt.tmod y.toInt) (by omega) (by omega) (by omega)]
/-- errors that were read are no farther than that -/
def cR_e (q : ck_Q) : Prop := (¬ q.2.1 = -1 → -100000000 ≤ q.2.2.2.toInt ∧ q.2.2.2.toInt ≤ 100000000) ∧ (¬ q.1 = -1 → -100000000 ≤ q.2.2.1.toInt ∧ q.2.2.1.toInt ≤ 100000000)
theorem cR_e_ft {A : Nat → Nat → Int32} {c t e1 e2 : Int32} : ∀ k, (∀ j, j < k → -100000000 ≤ (A 132 j).toInt ∧ (A 132 j).toInt ≤ 100000000) → cR_e (ck_ft A c t e1 e2 k) := by
  intro k
  induction k with
  | zero => intro _; exact ⟨fun h => absurd rfl h, fun h => absurd rfl h⟩
  | succ k ih =>
    intro hm
    have ih := ih (fun j hj => hm j (by omega))
    have hk := hm k (Nat.lt_succ_self _)
    rw [ck_ft]
    split
    · split
      · unfold ck_ft1
        split
        · exact ⟨fun _ => hk, ih.2⟩
        · split
          · exact ⟨fun _ => hk, ih.1⟩
          · split
            · exact ⟨ih.1, fun _ => hk⟩
            · exact ih
      · exact ih
    · exact ih
theorem i32_64 (x : Int32) : x.toInt64.toInt = x.toInt := Int32.toInt_toInt64 x
/-- the rate reckoned, as a number; and its size -/
theorem ck_sp_i {q : ck_Q} (he : cR_e q) {m n : Nat} (hm : m ≤ 100000) (hnm : n < m) (e2 : q.2.1 = nI m) (e1 : q.1 = nI n) : -200000000000 ≤ (ck_sp q).toInt ∧ (ck_sp q).toInt ≤ 200000000000 := by
  have g2 := he.1 (by rw [e2]; exact nI_m1 (by omega))
  have g1 := he.2 (by rw [e1]; exact nI_m1 (by omega))
  have s1 : (q.2.2.2 - q.2.2.1).toInt = q.2.2.2.toInt - q.2.2.1.toInt := fb_subI (by omega) (by omega)
  have s2 : ((q.2.2.2 - q.2.2.1).toInt64 * 1000).toInt = (q.2.2.2.toInt - q.2.2.1.toInt) * 1000 := by
    rw [fb_mulL (by rw [i32_64, s1, show (1000 : Int64).toInt = 1000 from rfl]; omega) (by rw [i32_64, s1, show (1000 : Int64).toInt = 1000 from rfl]; omega), i32_64, s1]
    rfl
  have s3 : (60 * (q.2.1 - q.1).toInt64).toInt = 60 * (m - n : Nat) := by
    rw [e2, e1, (cR_sub hnm hm).1, show (60 : Int64) = lN 60 from rfl, lN_mul, pk_lT (by omega)]
    omega
  unfold ck_sp
  rw [ck_dn_i (by rw [s3]; omega) (by rw [s2]; omega), s2, s3]
  have hp : (0 : Int) < 60 * (m - n : Nat) := by omega
  generalize (60 * ((m - n : Nat) : Int)) = d at hp ⊢
  generalize hx : (q.2.2.2.toInt - q.2.2.1.toInt) * 1000 = x
  have hx1 : -200000000000 ≤ x := by omega
  have hx2 : x ≤ 200000000000 := by omega
  constructor
  · have := Int.le_ediv_of_mul_le hp (a := -200000000000) (b := x) (by
      have := Int.mul_le_mul_of_nonneg_left (show (1 : Int) ≤ d by omega) (show (0 : Int) ≤ 200000000000 by omega)
      omega)
    exact this
  · have h9 : x / d ≤ 200000000000 := by
      have := Int.ediv_le_of_le_mul hp (a := x) (b := 200000000000) (by
        have := Int.mul_le_mul_of_nonneg_left (show (1 : Int) ≤ d by omega) (show (0 : Int) ≤ 200000000000 by omega)
        omega)
      exact this
    exact h9
theorem ck_abL_i {x : Int64} (h : -4611686018427387904 ≤ x.toInt ∧ x.toInt ≤ 4611686018427387904) : (ck_abL x).toInt = if x.toInt < 0 then -x.toInt else x.toInt := by
  unfold ck_abL
  have h0 : x < 0 ↔ x.toInt < 0 := Int64.lt_iff_toInt_lt
  by_cases hx : x < 0
  · rw [if_pos hx, if_pos (h0.mp hx), Int64.toInt_neg]
    exact Int.bmod_eq_of_le (by omega) (by omega)
  · rw [if_neg hx, if_neg (fun z => hx (h0.mpr z))]
/-- the best PENNIES -/
theorem cx_bp_eq {v0 : Int64} {pen cur : Int32} (hv : -200000000000 ≤ v0.toInt ∧ v0.toInt ≤ 200000000000) (hp : 0 ≤ pen.toInt ∧ pen.toInt ≤ 50) (hc : -20 ≤ cur.toInt ∧ cur.toInt ≤ 20) : ∀ k, k ≤ 41 → 1 ≤ k → cx_bp v0 pen cur k = ck_reg v0 pen cur k ∧ 0 ≤ (ck_reg v0 pen cur k).2 := by
  have off : ∀ k, k ≤ 40 → 0 ≤ (ck_abL (v0 + pen.toInt64 * (nI k - 20 - cur).toInt64)).toInt ∧ (ck_abL (v0 + pen.toInt64 * (nI k - 20 - cur).toInt64)).toInt < 1152921504606846976 := by
    intro k hk
    have e1 : (nI k - 20 - cur).toInt = (k : Int) - 20 - cur.toInt := by
      have e0 : (nI k - 20).toInt = (k : Int) - 20 := by
        rw [fb_subI (by rw [nI_toInt (by omega), show (20 : Int32).toInt = 20 from rfl]; omega) (by rw [nI_toInt (by omega), show (20 : Int32).toInt = 20 from rfl]; omega), nI_toInt (by omega)]
        rfl
      rw [fb_subI (by rw [e0]; omega) (by rw [e0]; omega), e0]
    have hb := ck_pb (x := pen.toInt) (y := (k : Int) - 20 - cur.toInt) (a := 50) (b := 40) (by omega) (by omega) (by omega) (by omega)
    have e2 : (pen.toInt64 * (nI k - 20 - cur).toInt64).toInt = pen.toInt * ((k : Int) - 20 - cur.toInt) := by
      rw [fb_mulL (by rw [i32_64, i32_64, e1]; omega) (by rw [i32_64, i32_64, e1]; omega), i32_64, i32_64, e1]
    have e3 : (v0 + pen.toInt64 * (nI k - 20 - cur).toInt64).toInt = v0.toInt + pen.toInt * ((k : Int) - 20 - cur.toInt) := by
      rw [fb_addL (by rw [e2]; omega) (by rw [e2]; omega), e2]
    rw [ck_abL_i (by rw [e3]; omega), e3]
    split <;> omega
  intro k
  induction k with
  | zero => intro _ h; omega
  | succ k ih =>
    intro hk _
    obtain ⟨o1, o2⟩ := off k (by omega)
    by_cases h0 : k = 0
    · subst h0
      have e : (ck_reg v0 pen cur 1) = (nI 0 - 20, ck_abL (v0 + pen.toInt64 * (nI 0 - 20 - cur).toInt64)) := by
        rw [ck_reg, if_neg (show ¬ (0 : Int64) ≤ (ck_reg v0 pen cur 0).2 by rw [ck_reg]; decide)]
      have e2 : (cx_bp v0 pen cur 1) = (nI 0 - 20, ck_abL (v0 + pen.toInt64 * (nI 0 - 20 - cur).toInt64)) := by
        rw [cx_bp_s, if_pos]
        rw [cx_bp, Int64.lt_iff_toInt_lt]
        exact o2
      refine ⟨e2.trans e.symm, ?_⟩
      rw [e]
      dsimp only
      generalize ck_abL (v0 + pen.toInt64 * (nI 0 - 20 - cur).toInt64) = z at o1
      exact Int64.le_iff_toInt_le.mpr o1
    · obtain ⟨i1, i2⟩ := ih (by omega) (by omega)
      rw [cx_bp_s, ck_reg, i1, if_pos i2]
      by_cases h : (ck_reg v0 pen cur k).2 ≤ ck_abL (v0 + pen.toInt64 * (nI k - 20 - cur).toInt64)
      · rw [if_pos h, if_neg (Int64.not_lt.mpr h)]
        exact ⟨rfl, i2⟩
      · rw [if_neg h, if_pos (Int64.not_le.mp h)]
        exact ⟨rfl, Int64.le_iff_toInt_le.mpr o1⟩
/-- the ERROR reckoned, as a number -/
theorem ck_rk_i {q : ck_Q} (he : cR_e q) {m n : Nat} (hm : m ≤ 100000) (hnm : n < m) (e2 : q.2.1 = nI m) (e1 : q.1 = nI n) {j : Nat} (hj : j ≤ 200000) :
    (ck_rk q (nI j)).toInt = q.2.2.2.toInt + (q.2.2.2.toInt - q.2.2.1.toInt) * ((j : Int) - m) / ((m : Int) - n) := by
  have g2 := he.1 (by rw [e2]; exact nI_m1 (by omega))
  have g1 := he.2 (by rw [e1]; exact nI_m1 (by omega))
  have s1 : (q.2.2.2 - q.2.2.1).toInt = q.2.2.2.toInt - q.2.2.1.toInt := fb_subI (by omega) (by omega)
  have s0 : (nI j - nI m).toInt = (j : Int) - m := pk_sub_toInt (by omega) (by omega)
  have hb := ck_pb (x := q.2.2.2.toInt - q.2.2.1.toInt) (y := (j : Int) - m) (a := 200000000) (b := 200000) (by omega) (by omega) (by omega) (by omega)
  have s2 : ((q.2.2.2 - q.2.2.1).toInt64 * (nI j - nI m).toInt64).toInt = (q.2.2.2.toInt - q.2.2.1.toInt) * ((j : Int) - m) := by
    rw [fb_mulL (by rw [i32_64, i32_64, s1, s0]; omega) (by rw [i32_64, i32_64, s1, s0]; omega), i32_64, i32_64, s1, s0]
  have s3 : (nI m - nI n).toInt64.toInt = (m : Int) - n := by
    rw [(cR_sub hnm hm).1, pk_lT (by omega)]
    omega
  unfold ck_rk
  rw [if_neg (by rw [e1]; exact nI_m1 (by omega)), e2, e1]
  have hd := ck_dn_i (x := (q.2.2.2 - q.2.2.1).toInt64 * (nI j - nI m).toInt64) (y := (nI m - nI n).toInt64) (by rw [s3]; omega) (by rw [s2]; omega)
  rw [s2, s3] at hd
  have hp : (0 : Int) < (m : Int) - n := by omega
  have hq : -40000000000000 ≤ (q.2.2.2.toInt - q.2.2.1.toInt) * ((j : Int) - m) / ((m : Int) - n) ∧ (q.2.2.2.toInt - q.2.2.1.toInt) * ((j : Int) - m) / ((m : Int) - n) ≤ 40000000000000 := by
    generalize (q.2.2.2.toInt - q.2.2.1.toInt) * ((j : Int) - m) = x at hb ⊢
    generalize (m : Int) - n = d at hp ⊢
    have hm9 := Int.mul_le_mul_of_nonneg_left (show (1 : Int) ≤ d by omega) (show (0 : Int) ≤ 40000000000000 by omega)
    exact ⟨Int.le_ediv_of_mul_le hp (by omega), Int.ediv_le_of_le_mul hp (by omega)⟩
  rw [fb_addL (by rw [i32_64, hd]; omega) (by rw [i32_64, hd]; omega), i32_64, hd]
/-- beyond a bound: once beyond, always -/
theorem ck_by_mono {q : ck_Q} (he : cR_e q) {m n : Nat} (hm : m ≤ 100000) (hnm : n < m) (e2 : q.2.1 = nI m) (e1 : q.1 = nI n) {v : Int32} (hv : 0 ≤ v.toInt ∧ v.toInt ≤ 100000000) (h0 : ¬ ck_by q v (nI m)) {j k : Nat} (hj : m ≤ j) (hjk : j ≤ k) (hk : k ≤ 200000) (h : ck_by q v (nI j)) : ck_by q v (nI k) := by
  have hneg : (-v).toInt64.toInt = -v.toInt := by rw [i32_64, fb_negI (by omega)]
  have by_i : ∀ x, x ≤ 200000 → (ck_by q v (nI x) ↔ (v.toInt < (ck_rk q (nI x)).toInt ∨ (ck_rk q (nI x)).toInt < -v.toInt)) := by
    intro x hx
    unfold ck_by
    rw [Int64.lt_iff_toInt_lt, Int64.lt_iff_toInt_lt, hneg, i32_64]
  rw [by_i m (by omega), ck_rk_i he hm hnm e2 e1 (by omega)] at h0
  rw [by_i j (by omega), ck_rk_i he hm hnm e2 e1 (by omega)] at h
  rw [by_i k (by omega), ck_rk_i he hm hnm e2 e1 (by omega)]
  have hz : (q.2.2.2.toInt - q.2.2.1.toInt) * ((m : Int) - m) / ((m : Int) - n) = 0 := by rw [Int.sub_self, Int.mul_zero, Int.zero_ediv]
  rw [hz] at h0
  have hp : (0 : Int) < (m : Int) - n := by omega
  generalize q.2.2.2.toInt - q.2.2.1.toInt = s at h ⊢
  by_cases hs : 0 ≤ s
  · have a1 : (0 : Int) ≤ s * ((j : Int) - m) := Int.mul_nonneg hs (by omega)
    have a2 : s * ((j : Int) - m) ≤ s * ((k : Int) - m) := Int.mul_le_mul_of_nonneg_left (by omega) hs
    have b1 : (0 : Int) ≤ s * ((j : Int) - m) / ((m : Int) - n) := Int.ediv_nonneg a1 (by omega)
    have b2 := Int.ediv_le_ediv hp a2
    omega
  · have a1 : s * ((j : Int) - m) ≤ 0 := Int.mul_nonpos_of_nonpos_of_nonneg (by omega) (by omega)
    have a2 : s * ((k : Int) - m) ≤ s * ((j : Int) - m) := by
      have := Int.mul_le_mul_of_nonneg_left (show (j : Int) - m ≤ (k : Int) - m by omega) (show 0 ≤ -s by omega)
      rw [Int.neg_mul, Int.neg_mul] at this
      omega
    have b1 : s * ((j : Int) - m) / ((m : Int) - n) ≤ 0 := by
      have := Int.ediv_le_ediv hp a1
      rw [Int.zero_ediv] at this
      exact this
    have b2 := Int.ediv_le_ediv hp a2
    omega
theorem cx_be_eq {F : Nat → Int32} {q : ck_Q} (h : cR_q F q) (hq : ¬ q.2.1 = -1) (x v : Int32) : cx_be F x v = 0 ↔ ¬ ck_by q v x := by
  unfold cx_be ck_by
  rw [cx_ea_eq h, if_neg hq]
  by_cases h1 : v.toInt64 < ck_rk q x
  · rw [if_pos h1]
    exact ⟨fun z => absurd z (by decide), fun z => absurd (Or.inl h1) z⟩
  · rw [if_neg h1]
    by_cases h2 : ck_rk q x < (-v).toInt64
    · rw [if_pos h2]
      exact ⟨fun z => absurd z (by decide), fun z => absurd (Or.inr h2) z⟩
    · rw [if_neg h2]
      exact ⟨fun _ z => z.elim h1 h2, fun _ => rfl⟩
/-- halving finds the first -/
theorem cx_hv_eq {F : Nat → Int32} {v : Int32} {lo hi : Nat} (hhi : hi ≤ 200000) (mono : ∀ j k, lo ≤ j → j ≤ k → k ≤ hi → ¬ cx_be F (nI j) v = 0 → ¬ cx_be F (nI k) v = 0) : ∀ n w b, lo ≤ w → w < b → b ≤ hi → b - w ≤ 2 ^ n → cx_be F (nI w) v = 0 → ¬ cx_be F (nI b) v = 0 →
    ∃ m, w < m ∧ m ≤ b ∧ cx_hv F v n (nI w) (nI b) = nI m ∧ ¬ cx_be F (nI m) v = 0 ∧ ∀ j, lo ≤ j → j < m → cx_be F (nI j) v = 0 := by
  have below : ∀ w, lo ≤ w → w ≤ hi → cx_be F (nI w) v = 0 → ∀ j, lo ≤ j → j ≤ w → cx_be F (nI j) v = 0 := by
    intro w h1 h2 h3 j h4 h5
    by_cases hz : cx_be F (nI j) v = 0
    · exact hz
    · exact absurd h3 (mono j w h4 h5 h2 hz)
  intro n
  induction n with
  | zero =>
    intro w b h1 h2 h3 h4 h5 h6
    exact ⟨b, h2, Nat.le_refl _, rfl, h6, fun j hj hjb => below w h1 (by omega) h5 j hj (by omega)⟩
  | succ n ih =>
    intro w b h1 h2 h3 h4 h5 h6
    rw [cx_hv, pk_sub (by omega : w ≤ b)]
    by_cases hle : b - w ≤ 1
    · rw [if_pos (show nI (b - w) ≤ (1 : Int32) from (nI_leI (a := b - w) (b := 1) (by omega) (by omega)).mpr hle)]
      exact ⟨b, h2, Nat.le_refl _, rfl, h6, fun j hj hjb => below w h1 (by omega) h5 j hj (by omega)⟩
    · rw [if_neg (show ¬ nI (b - w) ≤ (1 : Int32) from fun z => hle ((nI_leI (a := b - w) (b := 1) (by omega) (by omega)).mp z)), nI_add, show (2 : Int32) = nI 2 from rfl, pk_div (by omega) (by decide) (by decide)]
      rw [Nat.pow_succ] at h4
      by_cases hmid : cx_be F (nI ((w + b) / 2)) v = 0
      · rw [if_pos hmid]
        obtain ⟨m, q1, q2, q3, q4, q5⟩ := ih ((w + b) / 2) b (by omega) (by omega) h3 (by omega) hmid h6
        exact ⟨m, by omega, q2, q3, q4, q5⟩
      · rw [if_neg hmid]
        obtain ⟨m, q1, q2, q3, q4, q5⟩ := ih w ((w + b) / 2) h1 (by omega) (by omega) (by omega) h5 hmid
        exact ⟨m, q1, by omega, q3, q4, q5⟩
/-- what beyond answers, both ways -/
theorem cx_fb_eq {F : Nat → Int32} {q : ck_Q} (h : cR_q F q) (he : cR_e q) {v : Int32} (hv : 0 ≤ v.toInt ∧ v.toInt ≤ 100000000) :
    (q.2.1 = -1 ∧ cx_fb F v = -1) ∨ ∃ b : Nat, b ≤ 100000 ∧ q.2.1 = nI b ∧
      ((cx_fb F v = -1 ∧ ∀ j, b ≤ j → j ≤ 200000 → ¬ ck_by q v (nI j)) ∨ ∃ m : Nat, b ≤ m ∧ m ≤ 200000 ∧ cx_fb F v = nI m ∧ ck_by q v (nI m) ∧ ∀ j, b ≤ j → j < m → ¬ ck_by q v (nI j)) := by
  have h5 := (cR_q_5 h).2
  by_cases hq : q.2.1 = -1
  · exact Or.inl ⟨hq, by unfold cx_fb; rw [if_pos (h5.mpr hq)]⟩
  · have h50 : ¬ F 5 = 0 := fun z => hq (h5.mp z)
    have hbe := fun x => cx_be_eq h hq x v
    obtain ⟨b, hb, eb, e8, mono⟩ : ∃ b : Nat, b ≤ 100000 ∧ q.2.1 = nI b ∧ F 8 = nI b ∧ (¬ ck_by q v (nI b) → ∀ j k, b ≤ j → j ≤ k → k ≤ 200000 → ck_by q v (nI j) → ck_by q v (nI k)) := by
      rcases id h with ⟨_, h1, h2⟩ | ⟨_, h1, h8, h9, m2, hm2, e2⟩ | ⟨_, h6, h7, h8, h9, m2, m1, h12, hm2, e2, e1⟩
      · exact absurd h2 hq
      · refine ⟨m2, hm2, e2, h8.trans e2, fun h0 j k _ _ _ hz => ?_⟩
        have e : ∀ x, ck_rk q x = q.2.2.2.toInt64 := fun x => by unfold ck_rk; rw [if_pos h1]
        unfold ck_by at hz ⊢
        rw [e] at hz ⊢
        exact hz
      · exact ⟨m2, hm2, e2, h8.trans e2, fun h0 j k h1 h2 h3 hz => ck_by_mono he hm2 h12 e2 e1 hv h0 h1 h2 h3 hz⟩
    refine Or.inr ⟨b, hb, eb, ?_⟩
    unfold cx_fb
    rw [if_neg h50, e8]
    by_cases h0 : cx_be F (nI b) v = 0
    · rw [if_pos h0]
      have mono := mono ((hbe _).mp h0)
      by_cases h2 : cx_be F 200000 v = 0
      · rw [if_pos h2]
        refine Or.inl ⟨rfl, fun j h3 h4 hz => ?_⟩
        exact (hbe 200000).mp h2 (mono j 200000 h3 h4 (Nat.le_refl _) hz)
      · rw [if_neg h2]
        obtain ⟨m, q1, q2, q3, q4, q5⟩ := cx_hv_eq (F := F) (v := v) (lo := b) (hi := 200000) (Nat.le_refl _) (fun j k h1 h3 h4 hz z => hz ((hbe _).mpr (fun y => (hbe _).mp z (mono j k h1 h3 h4 y)))) 20 b 200000 (Nat.le_refl _) (by omega) (Nat.le_refl _) (by omega) h0 h2
        refine Or.inr ⟨m, by omega, q2, q3, ?_, fun j h1 h3 => (hbe _).mp (q5 j h1 h3)⟩
        exact Classical.not_not.mp (fun z => q4 ((hbe _).mpr z))
    · rw [if_neg h0]
      refine Or.inr ⟨b, Nat.le_refl _, by omega, rfl, ?_, fun j h1 h3 => by omega⟩
      exact Classical.not_not.mp (fun z => h0 ((hbe _).mpr z))

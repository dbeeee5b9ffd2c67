/-! PURE: hands moved; the tape, both ways. -/
theorem cx_dial_eq {a : Nat} (ha : a < 86400000000) {to : Int64} {s : Int32} (hs : -43200 ≤ s.toInt ∧ s.toInt ≤ 43200) (hto : lN a + s.toInt64 * 1000000 = to) : cj_fmL to 86400000000 = ck_wr2 to ∧ ∃ b : Nat, b < 86400000000 ∧ ck_wr2 to = lN b := by
  have e0 : (s.toInt64 * 1000000).toInt = s.toInt * 1000000 := by
    rw [fb_mulL (by rw [i32_64, show (1000000 : Int64).toInt = 1000000 from rfl]; omega) (by rw [i32_64, show (1000000 : Int64).toInt = 1000000 from rfl]; omega), i32_64]
    rfl
  have e1 : to.toInt = (a : Int) + s.toInt * 1000000 := by
    rw [← hto, fb_addL (by rw [e0, pk_lT (by omega)]; omega) (by rw [e0, pk_lT (by omega)]; omega), e0, pk_lT (by omega)]
  have e2 : (cj_fmL to (lN 86400000000)).toInt = to.toInt % (86400000000 : Nat) := cj_fmL_m (by decide) (by decide)
  have hW : (86400000000 : Int64).toInt = 86400000000 := by decide
  have h0 : (0 : Int64).toInt = 0 := rfl
  have e3 : (ck_wr2 to).toInt = to.toInt % (86400000000 : Nat) := by
    unfold ck_wr2
    by_cases c1 : to < 0
    · have c1' := Int64.lt_iff_toInt_lt.mp c1
      rw [h0] at c1'
      rw [if_pos c1, fb_addL (by rw [hW]; omega) (by rw [hW]; omega), hW]
      omega
    · have c1' : ¬ to.toInt < 0 := fun z => c1 (Int64.lt_iff_toInt_lt.mpr (by rw [h0]; exact z))
      rw [if_neg c1]
      by_cases c2 : to < 86400000000
      · have c2' := Int64.lt_iff_toInt_lt.mp c2
        rw [hW] at c2'
        rw [if_pos c2]
        omega
      · have c2' : ¬ to.toInt < 86400000000 := fun z => c2 (Int64.lt_iff_toInt_lt.mpr (by rw [hW]; exact z))
        rw [if_neg c2, fb_subL (by rw [hW]; omega) (by rw [hW]; omega), hW]
        omega
  refine ⟨?_, (to.toInt % 86400000000).toNat, by omega, ?_⟩
  · rw [show (86400000000 : Int64) = lN 86400000000 from rfl]
    exact Int64.toInt_inj.mp (e2.trans e3.symm)
  · apply Int64.toInt_inj.mp
    rw [e3, pk_lT (by omega)]
    omega
/-- how many quarters lie on the way -/
theorem cx_quarters {a : Nat} (ha : a < 86400000000) {to : Int64} {s : Int32} (hs : -43200 ≤ s.toInt ∧ s.toInt ≤ 43200) (hto : lN a + s.toInt64 * 1000000 = to) : ∃ nh : Nat, nh ≤ 60 ∧ (∀ k, k < nh → lN ((a / 900000000 + 1 + k) * 900000000) ≤ to) ∧ to < lN ((a / 900000000 + 1 + nh) * 900000000) := by
  have e0 : (s.toInt64 * 1000000).toInt = s.toInt * 1000000 := by
    rw [fb_mulL (by rw [i32_64, show (1000000 : Int64).toInt = 1000000 from rfl]; omega) (by rw [i32_64, show (1000000 : Int64).toInt = 1000000 from rfl]; omega), i32_64]
    rfl
  have e1 : to.toInt = (a : Int) + s.toInt * 1000000 := by
    rw [← hto, fb_addL (by rw [e0, pk_lT (by omega)]; omega) (by rw [e0, pk_lT (by omega)]; omega), e0, pk_lT (by omega)]
  obtain ⟨q, hq⟩ : ∃ q, q = a / 900000000 + 1 := ⟨_, rfl⟩
  rw [← hq]
  have hqa : a < q * 900000000 ∧ q * 900000000 ≤ a + 900000000 := by omega
  by_cases h : to.toInt < (q * 900000000 : Nat)
  · refine ⟨0, by omega, fun k hk => by omega, ?_⟩
    rw [Int64.lt_iff_toInt_lt, pk_lT (by omega)]
    omega
  · obtain ⟨d, hd⟩ : ∃ d : Nat, to.toInt = (q * 900000000 : Nat) + (d : Int) := ⟨(to.toInt - (q * 900000000 : Nat)).toNat, by omega⟩
    have hd2 : d ≤ 43200000000 := by omega
    refine ⟨d / 900000000 + 1, by omega, fun k hk => ?_, ?_⟩
    · rw [Int64.le_iff_toInt_le, pk_lT (by omega), hd]
      have : (q + k) * 900000000 ≤ q * 900000000 + d := by omega
      omega
    · rw [Int64.lt_iff_toInt_lt, pk_lT (by omega), hd]
      have : q * 900000000 + d < (q + (d / 900000000 + 1)) * 900000000 := by omega
      omega
theorem ck_hd_j {M : Nat → Int32} {A : Nat → Nat → Int32} {c : Nat} {lt : Int32} {a k j : Nat} (hj : j ≠ c) (h3 : k ≠ 123) : ∀ n, (ck_hd M A c lt a n).2 k j = A k j := by
  intro n
  induction n with
  | zero => rfl
  | succ n ih =>
    rw [ck_hd]
    split
    · exact ih
    · rw [ck_sn_j hj h3]
      exact ih
theorem cx_hd_eq {M : Nat → Int32} {A : Nat → Nat → Int32} {i : Nat} {V T Q Fo St S C : Nat → Int32} (hv : cR_v A i V T Q Fo St) (hw : ck_wf A i) (hi : cR_i A i) (c4 : C 4 = A 111 i) (c5 : C 5 = A 112 i) (c7 : C 7 = A 109 i) (c8 : ¬ A 117 i = 0 → C 8 = A 110 i) {lt : Int32} {a : Nat} (ha : a < 86400000000) :
    ∀ n, n ≤ 60 → ck_wf (ck_hd M A i lt a n).2 i ∧ cR_i (ck_hd M A i lt a n).2 i ∧ cR_v (ck_hd M A i lt a n).2 i V T Q Fo St ∧ (∀ j, (j < 7 ∨ j = 9 ∨ j = 10 ∨ j = 11 ∨ j = 12) → (cx_hd V T Q (fun j => A 106 (400 * i + j)) (fun j => A 107 (400 * i + j)) S C (A 105 i).toNatClampNeg lt a n).2 j = C j) ∧
      (cx_hd V T Q (fun j => A 106 (400 * i + j)) (fun j => A 107 (400 * i + j)) S C (A 105 i).toNatClampNeg lt a n).2 7 = (ck_hd M A i lt a n).2 109 i ∧ (¬ A 117 i = 0 → (cx_hd V T Q (fun j => A 106 (400 * i + j)) (fun j => A 107 (400 * i + j)) S C (A 105 i).toNatClampNeg lt a n).2 8 = (ck_hd M A i lt a n).2 110 i) := by
  intro n
  induction n with
  | zero => intro _; exact ⟨hw, hi, hv, fun j _ => rfl, c7, c8⟩
  | succ n ih =>
    intro hn
    obtain ⟨w1, i1, v1, o1, o7, o8⟩ := ih (by omega)
    rw [cx_hd, ck_hd]
    by_cases hl : lt = 0
    · rw [if_pos hl, if_pos hl]
      exact ⟨w1, i1, v1, o1, o7, o8⟩
    · rw [if_neg hl, if_neg hl]
      have ho : ∀ k, k ≠ 109 → k ≠ 110 → k ≠ 123 → (ck_hd M A i lt a n).2 k = A k := fun k h1 h2 h3 => ck_hd_A h1 h2 h3 n
      generalize ck_hd M A i lt a n = B at w1 i1 v1 o7 o8 ho ⊢
      generalize hcx : cx_hd V T Q (fun j => A 106 (400 * i + j)) (fun j => A 107 (400 * i + j)) S C (A 105 i).toNatClampNeg lt a n = Z at o1 o7 o8 ⊢
      have e : (a / 900000000 + 1 + n) * 900000000 / 900000000 % 96 = (a / 900000000 + 1 + n) % 96 := by rw [Nat.mul_div_cancel _ (by decide)]
      rw [e]
      have hs := cx_snd_eq (A := B.2) (i := i) (V := V) (T := T) (Q := Q) (Fo := Fo) (St := St) (S := Z.1) (C := Z.2) v1 w1 i1 (by rw [o1 4 (by omega), ho 111 (by decide) (by decide) (by decide)]; exact c4) (by rw [o1 5 (by omega), ho 112 (by decide) (by decide) (by decide)]; exact c5) o7 (fun h => o8 (by rw [← ho 117 (by decide) (by decide) (by decide)]; exact h))
        (M := B.1) (t := lN ((a / 900000000 + 1 + n) * 900000000)) (q := (a / 900000000 + 1 + n) % 96) (Nat.mod_lt _ (by decide)) (by rw [ck_h_n (by omega)]; congr 1; omega) (by rw [ck_q_n (by omega)]; congr 1; omega)
        (S2 := (cx_snd V T Q (fun j => A 106 (400 * i + j)) (fun j => A 107 (400 * i + j)) Z.1 Z.2 (A 105 i).toNatClampNeg ((a / 900000000 + 1 + n) % 96)).1) (C2 := (cx_snd V T Q (fun j => A 106 (400 * i + j)) (fun j => A 107 (400 * i + j)) Z.1 Z.2 (A 105 i).toNatClampNeg ((a / 900000000 + 1 + n) % 96)).2) (by
          rw [ho 105 (by decide) (by decide) (by decide), ho 106 (by decide) (by decide) (by decide), ho 107 (by decide) (by decide) (by decide)])
      obtain ⟨s1, s7, s8, s9, -⟩ := hs
      have so : ∀ k, k ≠ 109 → k ≠ 110 → k ≠ 123 → (ck_sn B.1 B.2 i (lN ((a / 900000000 + 1 + n) * 900000000))).2.2 k = B.2 k := fun k h1 h2 h3 => ck_sn_A h1 h2 h3
      have swf : ck_wf (ck_sn B.1 B.2 i (lN ((a / 900000000 + 1 + n) * 900000000))).2.2 i := ck_sn_wf w1
      generalize ck_sn B.1 B.2 i (lN ((a / 900000000 + 1 + n) * 900000000)) = s at s7 s8 s9 so swf ⊢
      refine ⟨swf, ?_, ?_, fun j hj => (s1 j (by omega) (by omega) (by omega) (by omega) (by omega)).trans (o1 j hj), s7, fun h => s8 (by rw [ho 117 (by decide) (by decide) (by decide)]; exact h)⟩
      · unfold cR_i
        rw [so 102 (by decide) (by decide) (by decide), so 103 (by decide) (by decide) (by decide), so 104 (by decide) (by decide) (by decide), so 105 (by decide) (by decide) (by decide), so 111 (by decide) (by decide) (by decide), so 112 (by decide) (by decide) (by decide), so 117 (by decide) (by decide) (by decide), so 100 (by decide) (by decide) (by decide), so 101 (by decide) (by decide) (by decide), so 114 (by decide) (by decide) (by decide)]
        obtain ⟨i1, i2, i3, i4, i5, i6, i7, i8, i9, i10⟩ := i1
        exact ⟨i1, i2, s9, i4, i5, i6, i7, i8, i9, i10⟩
      · unfold cR_v
        rw [so 102 (by decide) (by decide) (by decide), so 103 (by decide) (by decide) (by decide), so 104 (by decide) (by decide) (by decide), so 105 (by decide) (by decide) (by decide), so 106 (by decide) (by decide) (by decide), so 107 (by decide) (by decide) (by decide), so 117 (by decide) (by decide) (by decide)]
        exact v1
/-- a byte of a number, by either shift -/
theorem i32_255 (x : Int32) : x &&& 255 = nI (x.toInt % 256).toNat := by
  rw [pk_and x 8 (by decide)]
  congr 1
  have h : x.toInt = x.toBitVec.toInt := rfl
  rw [h, BitVec.toInt_eq_toNat_cond]
  have := x.toBitVec.isLt
  split <;> omega
theorem cx_byte {v s : Int32} {k : Nat} (hk : k = 24 ∨ k = 16 ∨ k = 8 ∨ k = 0) (h1 : ((s.toUInt32 &&& Int32.toUInt32 31).toBitVec % 32).toNat = k) (h2 : ((s &&& 31).toBitVec.smod 32).toNat = k) : (v.toUInt32 >>> (s.toUInt32 &&& Int32.toUInt32 31)).toInt32 &&& 255 = (v >>> (s &&& 31)) &&& 255 := by
  rw [pk_and _ 8 (by decide), i32_255, pk_ushr v s k h1, pk_shr v (s &&& 31) k h2, Int.shiftRight_eq_div_pow]
  congr 1
  have h : v.toInt = v.toBitVec.toInt := rfl
  rw [h, BitVec.toInt_eq_toNat_cond]
  have := v.toBitVec.isLt
  rcases hk with rfl | rfl | rfl | rfl <;> (split <;> omega)
theorem cx_4_o {T : Nat → Int32} {tp : Nat} {v : Int32} {j : Nat} : ∀ k, (j < tp ∨ tp + k ≤ j) → cx_4 T tp v k j = T j := by
  intro k
  induction k with
  | zero => intro _; rfl
  | succ k ih =>
    intro h
    rw [cx_4, pk_un (by omega)]
    exact ih (by omega)
theorem cx_4_i {T : Nat → Int32} {tp : Nat} {v : Int32} {j : Nat} (hj : j < 4) : cx_4 T tp v 4 (tp + j) = (v >>> (nI (24 - 8 * j) &&& 31)) &&& 255 := by
  rcases (show j = 0 ∨ j = 1 ∨ j = 2 ∨ j = 3 by omega) with rfl | rfl | rfl | rfl
  · rw [cx_4, pk_un (by omega), cx_4, pk_un (by omega), cx_4, pk_un (by omega), cx_4, pk_us]
    exact cx_byte (k := 24) (by decide) (by decide) (by decide)
  · rw [cx_4, pk_un (by omega), cx_4, pk_un (by omega), cx_4, pk_us]
    exact cx_byte (k := 16) (by decide) (by decide) (by decide)
  · rw [cx_4, pk_un (by omega), cx_4, pk_us]
    exact cx_byte (k := 8) (by decide) (by decide) (by decide)
  · rw [cx_4, pk_us]
    exact cx_byte (k := 0) (by decide) (by decide) (by decide)
theorem cx_20_eq {T : Nat → Int32} {tp : Nat} {a b c d e : Int32} : cx_20 T tp a b c d e = ck_put T (ck_by8 a b c d e) tp 20 := by
  funext j
  unfold cx_20 ck_put
  by_cases h : tp ≤ j ∧ j < tp + 20
  · rw [if_pos h]
    obtain ⟨k, rfl⟩ : ∃ k, j = tp + k := ⟨j - tp, by omega⟩
    have hk : k < 20 := by omega
    rw [show tp + k - tp = k by omega]
    unfold ck_by8 ck_fv
    by_cases h4 : k < 4
    · rw [if_pos h4, cx_4_o 4 (by omega), cx_4_o 4 (by omega), cx_4_o 4 (by omega), cx_4_o 4 (by omega), cx_4_i h4, show k % 4 = k by omega]
    · rw [if_neg h4]
      by_cases h8 : k < 8
      · rw [if_pos h8, cx_4_o 4 (by omega), cx_4_o 4 (by omega), cx_4_o 4 (by omega), show tp + k = tp + 4 + (k - 4) by omega, cx_4_i (by omega), show k % 4 = k - 4 by omega]
      · rw [if_neg h8]
        by_cases h12 : k < 12
        · rw [if_pos h12, cx_4_o 4 (by omega), cx_4_o 4 (by omega), show tp + k = tp + 4 + 4 + (k - 8) by omega, cx_4_i (by omega), show k % 4 = k - 8 by omega]
        · rw [if_neg h12]
          by_cases h16 : k < 16
          · rw [if_pos h16, cx_4_o 4 (by omega), show tp + k = tp + 4 + 4 + 4 + (k - 12) by omega, cx_4_i (by omega), show k % 4 = k - 12 by omega]
          · rw [if_neg h16, show tp + k = tp + 4 + 4 + 4 + 4 + (k - 16) by omega, cx_4_i (by omega), show k % 4 = k - 16 by omega]
  · rw [if_neg h, cx_4_o 4 (by omega), cx_4_o 4 (by omega), cx_4_o 4 (by omega), cx_4_o 4 (by omega), cx_4_o 4 (by omega)]

theorem cj_remL (x y : Int64) : (x - x / y * y).toInt = x.toInt.tmod y.toInt := by
  have e : x - x / y * y = x % y := by
    apply Int64.toInt_inj.mp
    rw [Int64.toInt_sub, Int64.toInt_mul, Int64.toInt_div, Int.bmod_mul_bmod, Int.sub_bmod_bmod, Int.mul_comm (x.toInt.tdiv y.toInt), ← Int.tmod_def, ← Int64.toInt_mod]
    exact Int.bmod_eq_of_le (by have := Int64.le_toInt (x % y); omega) (by have := Int64.toInt_lt (x % y); omega)
  rw [e]; exact Int64.toInt_mod x y
theorem cj_xI {x y : Int32} (hy : 0 < y.toInt) : x ^^^ y < 0 ↔ x.toInt < 0 := by
  have h : ∀ z : Int32, z < 0 ↔ z.toBitVec.msb = true := by
    intro z
    rw [Int32.lt_iff_toInt_lt, show (0 : Int32).toInt = 0 from rfl, ← Int32.toInt_toBitVec, BitVec.msb_eq_toInt, decide_eq_true_eq]
  have hy2 : y.toBitVec.msb = false := by
    rw [BitVec.msb_eq_toInt, Int32.toInt_toBitVec]
    exact decide_eq_false (by omega)
  rw [h, Int32.toBitVec_xor, BitVec.msb_xor, hy2, Bool.xor_false, BitVec.msb_eq_toInt, decide_eq_true_eq, Int32.toInt_toBitVec]
theorem cj_xL {x y : Int64} (hy : 0 < y.toInt) : x ^^^ y < 0 ↔ x.toInt < 0 := by
  have h : ∀ z : Int64, z < 0 ↔ z.toBitVec.msb = true := by
    intro z
    rw [Int64.lt_iff_toInt_lt, show (0 : Int64).toInt = 0 from rfl, ← Int64.toInt_toBitVec, BitVec.msb_eq_toInt, decide_eq_true_eq]
  have hy2 : y.toBitVec.msb = false := by
    rw [BitVec.msb_eq_toInt, Int64.toInt_toBitVec]
    exact decide_eq_false (by omega)
  rw [h, Int64.toBitVec_xor, BitVec.msb_xor, hy2, Bool.xor_false, BitVec.msb_eq_toInt, decide_eq_true_eq, Int64.toInt_toBitVec]
theorem cj_tn {a n : Int} (hn : 0 < n) (ha : a ≤ 0) : a.tmod n ≤ 0 ∧ a ≤ a.tmod n := by
  have e : a.tmod n = -((-a).tmod n) := by rw [Int.neg_tmod, Int.neg_neg]
  have h1 : 0 ≤ (-a).tmod n := Int.tmod_nonneg _ (by omega)
  have h2 := Int.tmod_def (-a) n
  have h3 : 0 ≤ (-a).tdiv n := Int.tdiv_nonneg (by omega) (by omega)
  have h4 := Int.mul_nonneg (show 0 ≤ n by omega) h3
  omega
theorem cj_em {a n : Int} (hn : 0 < n) (ha : a < 0) : a % n = if a.tmod n = 0 then 0 else a.tmod n + n := by
  have h1 := tmod_bounds (a := a) hn
  have h2 := Int.tmod_def a n
  have h3 : a.tmod n ≤ 0 := (cj_tn hn (by omega)).1
  split
  · rename_i h
    exact Int.emod_eq_zero_of_dvd ⟨a.tdiv n, by rw [h] at h2; omega⟩
  · rename_i h
    have h4 : a = (a.tmod n + n) + n * (a.tdiv n - 1) := by
      rw [Int.mul_sub, Int.mul_one]; omega
    rw [h4, Int.add_mul_emod_self_left, ← h4]
    exact Int.emod_eq_of_lt (by omega) (by omega)
theorem cj_fm_i {x y : Int32} (hy : 0 < y.toInt) : (cj_fm x y).toInt = x.toInt % y.toInt := by
  have hr := rem_toInt x y
  have hb := tmod_bounds (a := x.toInt) hy
  have b1 := Int32.toInt_lt y
  have b2 := Int32.le_toInt y
  unfold cj_fm
  by_cases hx : x.toInt < 0
  · rw [if_pos ((cj_xI hy).mpr hx), cj_em hy hx]
    have h3 : x.toInt.tmod y.toInt ≤ 0 := (cj_tn hy (by omega)).1
    split
    · rename_i h
      rw [h] at hr
      rw [h, if_pos (by rw [← hr]; rfl)]; rfl
    · rename_i h
      rw [if_neg (fun e => h (Int32.toInt_inj.mp (by rw [hr, e]; rfl))), Int32.toInt_add, hr]
      exact Int.bmod_eq_of_le (by omega) (by omega)
  · rw [if_neg (fun h => hx ((cj_xI hy).mp h)), hr, Int.tmod_eq_emod_of_nonneg (by omega)]
theorem cj_fmL_i {x y : Int64} (hy : 0 < y.toInt) : (cj_fmL x y).toInt = x.toInt % y.toInt := by
  have hr := cj_remL x y
  have hb := tmod_bounds (a := x.toInt) hy
  have b1 := Int64.toInt_lt y
  have b2 := Int64.le_toInt y
  unfold cj_fmL
  by_cases hx : x.toInt < 0
  · rw [if_pos ((cj_xL hy).mpr hx), cj_em hy hx]
    have h3 : x.toInt.tmod y.toInt ≤ 0 := (cj_tn hy (by omega)).1
    split
    · rename_i h
      rw [h] at hr
      rw [h, if_pos (by rw [← hr]; rfl)]; rfl
    · rename_i h
      rw [if_neg (fun e => h (Int64.toInt_inj.mp (by rw [hr, e]; rfl))), Int64.toInt_add, hr]
      exact Int.bmod_eq_of_le (by omega) (by omega)
  · rw [if_neg (fun h => hx ((cj_xL hy).mp h)), hr, Int.tmod_eq_emod_of_nonneg (by omega)]
theorem cj_tp {a n : Int} (hn : 0 < n) (ha : 0 ≤ a) : 0 ≤ a.tmod n ∧ a.tmod n ≤ a := by
  have h1 : 0 ≤ a.tmod n := Int.tmod_nonneg _ ha
  have h2 := Int.tmod_def a n
  have h3 : 0 ≤ a.tdiv n := Int.tdiv_nonneg (by omega) (by omega)
  have h4 := Int.mul_nonneg (show 0 ≤ n by omega) h3
  omega
theorem cj_fdL_dn {x y : Int64} (hy : 0 < y.toInt) : cj_fdL x y = ck_dn x y := by
  have b2 := Int64.le_toInt x
  have b3 := Int64.toInt_lt x
  have e1 : (x / y * y).toInt = x.toInt - x.toInt.tmod y.toInt := by
    rw [Int64.toInt_mul, Int64.toInt_div, Int.bmod_mul_bmod]
    have h5 : x.toInt.tdiv y.toInt * y.toInt = x.toInt - x.toInt.tmod y.toInt := by have := Int.tmod_def x.toInt y.toInt; rw [Int.mul_comm]; omega
    rw [h5]
    by_cases hx : x.toInt < 0
    · have h3 := cj_tn hy (show x.toInt ≤ 0 by omega)
      exact Int.bmod_eq_of_le (by omega) (by omega)
    · have h3 := cj_tp hy (show 0 ≤ x.toInt by omega)
      exact Int.bmod_eq_of_le (by omega) (by omega)
  unfold cj_fdL ck_dn
  by_cases hx : x.toInt < 0
  · have h3 := cj_tn hy (show x.toInt ≤ 0 by omega)
    rw [if_pos ((cj_xL hy).mpr hx)]
    by_cases he : x / y * y = x
    · rw [if_pos he, he, if_neg (Int64.lt_irrefl)]
    · rw [if_neg he, if_pos]
      rw [Int64.lt_iff_toInt_lt, e1]
      have : ¬ x.toInt - x.toInt.tmod y.toInt = x.toInt := fun h => he (Int64.toInt_inj.mp (by rw [e1, h]))
      omega
  · have h3 := cj_tp hy (show 0 ≤ x.toInt by omega)
    rw [if_neg (fun h => hx ((cj_xL hy).mp h)), if_neg]
    rw [Int64.lt_iff_toInt_lt, e1]
    omega
/-- in numbers -/
theorem cj_fm_n {a n : Nat} (h0 : 0 < n) (hn : n < 2 ^ 31) (ha : a < 2 ^ 31) : cj_fm (nI a) (nI n) = nI (a % n) := by
  apply Int32.toInt_inj.mp
  rw [cj_fm_i (by rw [nI_toInt hn]; omega), nI_toInt hn, nI_toInt ha, nI_toInt (Nat.lt_of_lt_of_le (Nat.mod_lt _ h0) (by omega))]
  rfl
theorem cj_fm_s {a b n : Nat} (h0 : 0 < n) (hn : n < 2 ^ 30) (ha : a < 2 ^ 30) (hb : b ≤ n) : cj_fm (nI a - nI b) (nI n) = nI ((a + n - b) % n) := by
  apply Int32.toInt_inj.mp
  rw [cj_fm_i (by rw [nI_toInt (by omega)]; omega), nI_toInt (by omega), pk_sub_toInt (by omega) (by omega), nI_toInt (Nat.lt_of_lt_of_le (Nat.mod_lt _ h0) (by omega)), Int.natCast_emod]
  rw [show ((a + n - b : Nat) : Int) = ((a : Int) - b) + n by omega, Int.add_emod_right]
theorem cj_fmL_m {x : Int64} {n : Nat} (h0 : 0 < n) (hn : n < 2 ^ 62) : (cj_fmL x (lN n)).toInt = x.toInt % n := by
  rw [cj_fmL_i (by rw [pk_lT (by omega)]; omega), pk_lT (by omega)]

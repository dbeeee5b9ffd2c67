theorem fb_rng (x : Int32) : -2147483648 ≤ x.toInt ∧ x.toInt < 2147483648 := by
  have h1 := Int32.le_toInt x
  have h2 := Int32.toInt_lt x
  omega
theorem fb_bmod {z : Int} (h1 : -2147483648 ≤ z) (h2 : z < 2147483648) : z.bmod (2 ^ 32) = z := by
  rw [Int.bmod_eq_of_le (by omega) (by omega)]
theorem fb_addI {x y : Int32} (h1 : -2147483648 ≤ x.toInt + y.toInt) (h2 : x.toInt + y.toInt < 2147483648) : (x + y).toInt = x.toInt + y.toInt := by
  rw [Int32.toInt_add, fb_bmod h1 h2]
theorem fb_subI {x y : Int32} (h1 : -2147483648 ≤ x.toInt - y.toInt) (h2 : x.toInt - y.toInt < 2147483648) : (x - y).toInt = x.toInt - y.toInt := by
  rw [Int32.toInt_sub, fb_bmod h1 h2]
theorem fb_mulI {x y : Int32} (h1 : -2147483648 ≤ x.toInt * y.toInt) (h2 : x.toInt * y.toInt < 2147483648) : (x * y).toInt = x.toInt * y.toInt := by
  rw [Int32.toInt_mul, fb_bmod h1 h2]
theorem fb_negI {x : Int32} (h : x.toInt ≠ -2147483648) : (-x).toInt = -x.toInt := by
  have := fb_rng x
  rw [Int32.toInt_neg, fb_bmod (by omega) (by omega)]
theorem fb_ofI {z : Int} (h1 : -2147483648 ≤ z) (h2 : z < 2147483648) : (Int32.ofInt z).toInt = z := by
  rw [Int32.toInt_ofInt, fb_bmod h1 h2]
theorem fb_asI (x : Int32) : Int32.ofInt x.toInt = x := Int32.ofInt_toInt x
theorem fb_rngL (x : Int64) : -9223372036854775808 ≤ x.toInt ∧ x.toInt < 9223372036854775808 := by
  have h1 := Int64.le_toInt x
  have h2 := Int64.toInt_lt x
  omega
theorem fb_bmodL {z : Int} (h1 : -9223372036854775808 ≤ z) (h2 : z < 9223372036854775808) : z.bmod (2 ^ 64) = z := by
  rw [Int.bmod_eq_of_le (by omega) (by omega)]
theorem fb_addL {x y : Int64} (h1 : -9223372036854775808 ≤ x.toInt + y.toInt) (h2 : x.toInt + y.toInt < 9223372036854775808) : (x + y).toInt = x.toInt + y.toInt := by
  rw [Int64.toInt_add, fb_bmodL h1 h2]
theorem fb_subL {x y : Int64} (h1 : -9223372036854775808 ≤ x.toInt - y.toInt) (h2 : x.toInt - y.toInt < 9223372036854775808) : (x - y).toInt = x.toInt - y.toInt := by
  rw [Int64.toInt_sub, fb_bmodL h1 h2]
theorem fb_mulL {x y : Int64} (h1 : -9223372036854775808 ≤ x.toInt * y.toInt) (h2 : x.toInt * y.toInt < 9223372036854775808) : (x * y).toInt = x.toInt * y.toInt := by
  rw [Int64.toInt_mul, fb_bmodL h1 h2]
/-! the rate is small, so a MINUTE goes on by a known amount -/
theorem ck_pb {x y a b : Int} (h1 : -a ≤ x) (h2 : x ≤ a) (h3 : -b ≤ y) (h4 : y ≤ b) : -(a * b) ≤ x * y ∧ x * y ≤ a * b := by
  have e1 := Int.mul_nonneg (show 0 ≤ a - x by omega) (show 0 ≤ b + y by omega)
  have e2 := Int.mul_nonneg (show 0 ≤ a + x by omega) (show 0 ≤ b - y by omega)
  have e3 := Int.mul_nonneg (show 0 ≤ a - x by omega) (show 0 ≤ b - y by omega)
  have e4 := Int.mul_nonneg (show 0 ≤ a + x by omega) (show 0 ≤ b + y by omega)
  simp only [Int.sub_mul, Int.mul_sub, Int.add_mul, Int.mul_add] at e1 e2 e3 e4
  constructor <;> omega
theorem ck_pI {x y : Int32} {a b : Int} (h1 : -a ≤ x.toInt) (h2 : x.toInt ≤ a) (h3 : -b ≤ y.toInt) (h4 : y.toInt ≤ b) (hab : a * b < 2147483648) : -(a * b) ≤ (x * y).toInt ∧ (x * y).toInt ≤ a * b ∧ (x * y).toInt = x.toInt * y.toInt := by
  obtain ⟨e1, e2⟩ := ck_pb h1 h2 h3 h4
  rw [fb_mulI (by omega) (by omega)]
  exact ⟨e1, e2, rfl⟩
theorem ck_iN {n : Nat} (h : n < 2 ^ 31) : (nI n).toInt = (n : Int) := nI_toInt h
/-- what a text and the keeper may set: the ranges of what the rate is made of -/
def ck_rg (A : Nat → Nat → Int32) (c : Nat) : Prop :=
  (-500 ≤ (A 102 (16 * c + 1)).toInt ∧ (A 102 (16 * c + 1)).toInt ≤ 500) ∧ (-500 ≤ (A 102 (16 * c + 2)).toInt ∧ (A 102 (16 * c + 2)).toInt ≤ 500) ∧
  (0 ≤ (A 102 (16 * c + 3)).toInt ∧ (A 102 (16 * c + 3)).toInt ≤ 500) ∧ (0 ≤ (A 102 (16 * c + 4)).toInt ∧ (A 102 (16 * c + 4)).toInt ≤ 500) ∧
  (0 ≤ (A 102 (16 * c + 15)).toInt ∧ (A 102 (16 * c + 15)).toInt ≤ 50) ∧ (-20 ≤ (A 115 c).toInt ∧ (A 115 c).toInt ≤ 20) ∧
  (∃ run lf : Nat, 1 ≤ run ∧ run ≤ 31 ∧ A 102 (16 * c + 0) = nI run ∧ A 108 c = nI lf ∧ lf ≤ 1440 * run) ∧ ∃ o : Nat, A 113 c = nI o ∧ o ≤ 100000
/-- the warmth as told -/
def ck_wo (M : Nat → Int32) (A : Nat → Nat → Int32) : Prop := ∃ w : Nat, w ≤ 1700 ∧ M 2 = nI w ∧ ∀ j, j < w → -30 ≤ (A 94 j).toInt ∧ (A 94 j).toInt ≤ 50
theorem ck_wm_b {M : Nat → Int32} {A : Nat → Nat → Int32} (h : ck_wo M A) {mi : Nat} (h1 : M 1 = nI mi) (hmi : mi ≤ 100000) : -30 ≤ (ck_wm M A).toInt ∧ (ck_wm M A).toInt ≤ 50 := by
  obtain ⟨w, hw, h2, hj⟩ := h
  unfold ck_wm
  have hd : M 1 / 60 = nI (mi / 60) := by rw [h1, show (60 : Int32) = nI 60 from rfl, pk_div (by omega) (by decide) (by decide)]
  split
  · rename_i h
    have hlt : mi / 60 < w := by rw [hd, h2, nI_ltI (by omega) (by omega)] at h; exact h
    rw [hd, nI_clamp (by omega)]
    exact hj _ hlt
  · decide
theorem ck_rt_b {M : Nat → Int32} {A : Nat → Nat → Int32} {c mi : Nat} (hw : ck_wo M A) (hr : ck_rg A c) (h1 : M 1 = nI mi) (hmi : mi ≤ 100000) : -64000 ≤ (ck_rt M A c).toInt ∧ (ck_rt M A c).toInt ≤ 64000 := by
  obtain ⟨r1, r2, r3, r4, r15, rp, ⟨run, lf, hr1, hr2, hr0, hlf, hlf2⟩, o, ho, ho2⟩ := hr
  have hwm := ck_wm_b hw h1 hmi
  unfold ck_rt ck_rate
  dsimp only
  generalize ck_wm M A = wm at hwm ⊢
  have ew : (wm - 15).toInt = wm.toInt - 15 := fb_subI (by rw [show (15 : Int32).toInt = 15 from rfl]; omega) (by rw [show (15 : Int32).toInt = 15 from rfl]; omega)
  have p2 := ck_pI (a := 500) (b := 45) r2.1 r2.2 (by omega) (show (wm - 15).toInt ≤ 45 by omega) (by decide)
  have ed : M 1 / 1440 - A 113 c / 1440 = nI (mi / 1440) - nI (o / 1440) := by rw [h1, ho, show (1440 : Int32) = nI 1440 from rfl, pk_div (by omega) (by decide) (by decide), pk_div (by omega) (by decide) (by decide)]
  have ed2 := pk_sub_toInt (a := mi / 1440) (b := o / 1440) (by omega) (by omega)
  rw [ed]
  have p3 := ck_pI (x := A 102 (16 * c + 3)) (y := nI (mi / 1440) - nI (o / 1440)) (a := 500) (b := 69) (by omega) r3.2 (by omega) (by omega) (by decide)
  have et : 10 * (1440 * A 102 (16 * c + 0) - A 108 c) / (1440 * A 102 (16 * c + 0)) = nI (10 * (1440 * run - lf) / (1440 * run)) := by
    rw [hr0, hlf, show (1440 : Int32) = nI 1440 from rfl, pk_mul, pk_sub hlf2, show (10 : Int32) = nI 10 from rfl, pk_mul, pk_div (by omega) (by omega) (by omega)]
  rw [et]
  have q1 : 10 * (1440 * run - lf) / (1440 * run) ≤ 10 := by
    have : 10 * (1440 * run - lf) / (1440 * run) < 11 := Nat.div_lt_of_lt_mul (by omega)
    exact Nat.le_of_lt_succ this
  generalize 10 * (1440 * run - lf) / (1440 * run) = ten at q1 ⊢
  have q2 := ck_iN (n := ten) (by omega)
  have p4 := ck_pI (x := A 102 (16 * c + 4)) (y := nI ten) (a := 500) (b := 10) (by omega) r4.2 (by omega) (by omega) (by decide)
  have p15 := ck_pI (x := A 102 (16 * c + 15)) (y := A 115 c) (a := 50) (b := 20) (by omega) r15.2 rp.1 rp.2 (by decide)
  obtain ⟨a2, b2, -⟩ := p2
  obtain ⟨a3, b3, -⟩ := p3
  obtain ⟨a4, b4, -⟩ := p4
  obtain ⟨a15, b15, -⟩ := p15
  have s1 := fb_addI (x := A 102 (16 * c + 1)) (y := A 102 (16 * c + 2) * (wm - 15)) (by omega) (by omega)
  have s2 := fb_subI (x := A 102 (16 * c + 1) + A 102 (16 * c + 2) * (wm - 15)) (y := A 102 (16 * c + 3) * (nI (mi / 1440) - nI (o / 1440))) (by omega) (by omega)
  have s3 := fb_subI (x := A 102 (16 * c + 1) + A 102 (16 * c + 2) * (wm - 15) - A 102 (16 * c + 3) * (nI (mi / 1440) - nI (o / 1440))) (y := A 102 (16 * c + 4) * nI ten) (by omega) (by omega)
  have s4 := fb_addI (x := A 102 (16 * c + 1) + A 102 (16 * c + 2) * (wm - 15) - A 102 (16 * c + 3) * (nI (mi / 1440) - nI (o / 1440)) - A 102 (16 * c + 4) * nI ten) (y := A 102 (16 * c + 15) * A 115 c) (by omega) (by omega)
  omega
def ck_more (M : Nat → Int32) (A : Nat → Nat → Int32) (c : Nat) : Int64 := 60000000 + 60 * (ck_rt M A c).toInt64
theorem ck_more_ok {M : Nat → Int32} {A : Nat → Nat → Int32} {c mi : Nat} (hw : ck_wo M A) (hr : ck_rg A c) (h1 : M 1 = nI mi) (hmi : mi ≤ 100000) : ∃ mo : Nat, 56000000 ≤ mo ∧ mo ≤ 64000000 ∧ ck_more M A c = lN mo := by
  have hb := ck_rt_b hw hr h1 hmi
  unfold ck_more
  generalize ck_rt M A c = x at hb ⊢
  have e1 : x.toInt64.toInt = x.toInt := Int32.toInt_toInt64 x
  have e2 : (60 * x.toInt64).toInt = 60 * x.toInt := by
    rw [fb_mulL (by rw [show (60 : Int64).toInt = 60 from rfl]; omega) (by rw [show (60 : Int64).toInt = 60 from rfl]; omega), e1]; rfl
  have e3 : (60000000 + 60 * x.toInt64).toInt = 60000000 + 60 * x.toInt := by
    rw [fb_addL (by rw [show (60000000 : Int64).toInt = 60000000 from rfl]; omega) (by rw [show (60000000 : Int64).toInt = 60000000 from rfl]; omega), e2]; rfl
  refine ⟨(60000000 + 60 * x.toInt).toNat, by omega, by omega, Int64.toInt_inj.mp ?_⟩
  rw [e3, pk_lT (by omega)]
  omega
def ck_tn (x : Int64) : Nat := x.toInt.toNat
theorem ck_tn_l {n : Nat} (h : n < 2 ^ 63) : ck_tn (lN n) = n := by unfold ck_tn; rw [pk_lT h]; rfl
abbrev ck_S : Type := (Nat → Int32) × (Nat → Nat → Int32) × (Nat → Nat → Int64)
abbrev ck_W (S : ck_S) (R : kx_P) : kx_P := mW S.1 S.2.1 S.2.2 R
/-- one MINUTE of one clock -/
def ck_go (S : ck_S) (c : Nat) : ck_S :=
  if S.2.1 108 c = 0 then S else
  let a := ck_tn (S.2.2 116 c)
  let mo := ck_tn (ck_more S.1 S.2.1 c)
  let q := (a / 900000000 + 1) * 900000000
  let A1 := va_up S.2.1 108 (upd (S.2.1 108) c (S.2.1 108 c - 1))
  let L1 := va_up S.2.2 116 (vp_updL (S.2.2 116) c (lN ((a + mo) % 86400000000)))
  if q ≤ a + mo then
    let A2 := if q = 86400000000 then ck_nextA A1 c (ck_cal (S.2.1 102 (16 * c + 13)) (S.2.1 112 c) (S.1 3)) else A1
    let s := ck_sn S.1 A2 c (lN q)
    if s.1 = 0 then (s.2.1, s.2.2, L1) else
      let k := ck_kp s.2.1 s.2.2 (nI c) (60 * S.1 1 + nI (min 59 (60 * (q - a) / mo)))
      (k.1, k.2, L1)
  else (S.1, A1, L1)
def ck_dl (L : Nat → Nat → Int64) (c : Nat) : Prop := ∃ a : Nat, a < 86400000000 ∧ L 116 c = lN a
set_option maxHeartbeats 4000000 in
theorem ct_X11_goes (l : Launch) (G : kx_G) {S : ck_S} {R : kx_P} {sz : Nat} {c : Nat} (hc : c < 8) (hw : ck_wf S.2.1 c) (hr : ck_rg S.2.1 c) (hwo : ck_wo S.1 S.2.1) (hd : ck_dl S.2.2 c) {mi : Nat} (h1 : S.1 1 = nI mi) (hmi : mi ≤ 100000) (hn : S.1 49 = 0 → ∃ n : Nat, n < 2 ^ 30 ∧ S.1 22 = nI n) :
    kx_M l G sX11_goes 4 0 0 [.ref 93, .int (nI c)] (ck_W S R) sz none (ck_W (ck_go S c) R) sz := by
  obtain ⟨M, A, L⟩ := S
  dsimp only at hw hr hwo hd h1 hn
  by_cases hl : A 108 c = 0
  · unfold ck_go ck_W
    dsimp only
    rw [if_pos hl]
    exact ct_X11_goes_0 l G hc hl
  obtain ⟨mo, hm1, hm2, hmo⟩ := ck_more_ok hwo hr h1 hmi
  obtain ⟨w, hw2, h2, -⟩ := hwo
  obtain ⟨a, haW, ha⟩ := hd
  have ea : ck_tn (L 116 c) = a := by rw [ha, ck_tn_l (by omega)]
  have em : ck_tn (ck_more M A c) = mo := by rw [hmo, ck_tn_l (by omega)]
  unfold ck_go ck_W
  dsimp only
  rw [if_neg hl, ea, em]
  have ewr : lN ((a + mo) % 86400000000) = ck_wr (lN (a + mo)) := (ck_wr_n (by omega)).symm
  rw [ewr]
  generalize hqd : (a / 900000000 + 1) * 900000000 = q
  have hqd' := hqd.symm
  have emi : nI (min 59 (60 * (q - a) / mo)) = (ck_mi (lN (60 * (q - a) / mo))).toInt32 := (ck_mi_n (by
    have : 60 * (q - a) / mo ≤ 60 * (q - a) := Nat.div_le_self _ _
    omega)).symm
  rw [emi]
  have hmo' : 60000000 + 60 * (ck_rt M A c).toInt64 = lN mo := hmo
  by_cases hq : q ≤ a + mo
  · rw [if_pos hq]
    by_cases hW : q = 86400000000
    · rw [if_pos hW]
      split
      · rename_i hS
        dsimp only
        exact ct_X11_goes_wm l G hc hw h1 hmi h2 hw2 ha haW hmo' (by omega) (by omega) hqd' hl hq hW hS
      · rename_i hS
        dsimp only
        exact ct_X11_goes_ws l G hc hw h1 hmi h2 hw2 ha haW hmo' (by omega) (by omega) hqd' hl hq hW hS hn
    · rw [if_neg hW]
      split
      · rename_i hS
        dsimp only
        exact ct_X11_goes_om l G hc hw h1 hmi h2 hw2 ha haW hmo' (by omega) (by omega) hqd' hl hq hW hS
      · rename_i hS
        dsimp only
        exact ct_X11_goes_os l G hc hw h1 hmi h2 hw2 ha haW hmo' (by omega) (by omega) hqd' hl hq hW hS hn
  · rw [if_neg hq]
    dsimp only
    exact ct_X11_goes_n l G hc hw h1 hmi h2 hw2 ha haW hmo' (by omega) (by omega) hqd' hl hq


/-! the plan of the class: slacks, four bits each -/
theorem cj_bc_n : ∀ w, w < 256 → cj_bc (nI w) = nI (ck_pc w) := by decide +kernel
def cp_nf (j : Nat) : Nat := match j with
  | 2 => 16
  | 3 => 97
  | 4 => 353
  | 5 => 978
  | 6 => 2274
  | 7 => 4675
  | 8 => 8771
  | 9 => 15332
  | 10 => 25332
  | _ => 0
def cj_nf (j : Nat) : Int32 := nI (cp_nf j)
/-- a digit -/
def cp_d (s i : Nat) : Nat := s / 16 ^ i % 16
theorem cp_dg {s i : Nat} (hs : s < 65536) (hi : i < 4) : (nI s >>> (nI (4 * i) &&& 31)) &&& 15 = nI (cp_d s i) := by
  unfold cp_d
  rcases (show i = 0 ∨ i = 1 ∨ i = 2 ∨ i = 3 by omega) with rfl | rfl | rfl | rfl
  · rw [pk_shrN (by omega) _ 0 (by decide), pk_andN (by omega) 4 (by decide)]
  · rw [pk_shrN (by omega) _ 4 (by decide), pk_andN (by omega) 4 (by decide)]
  · rw [pk_shrN (by omega) _ 8 (by decide), pk_andN (by omega) 4 (by decide)]
  · rw [pk_shrN (by omega) _ 12 (by decide), pk_andN (by omega) 4 (by decide)]
theorem nI_or (a b : Nat) : nI a ||| nI b = nI (a ||| b) := by
  apply Int32.toBitVec_inj.mp
  rw [Int32.toBitVec_or]
  apply BitVec.eq_of_toNat_eq
  show (BitVec.ofNat 32 a ||| BitVec.ofNat 32 b).toNat = (BitVec.ofNat 32 (a ||| b)).toNat
  rw [BitVec.toNat_or, BitVec.toNat_ofNat, BitVec.toNat_ofNat, BitVec.toNat_ofNat, Nat.or_mod_two_pow]
theorem cp_sh {v m i : Nat} (hv : v < 16 ^ i) (hm : m < 16) (hi : i < 4) : nI v ||| (nI m <<< (nI (4 * i) &&& 31)) = nI (v + m * 16 ^ i) := by
  have e : nI m <<< (nI (4 * i) &&& 31) = nI (m * 16 ^ i) := by
    rcases (show i = 0 ∨ i = 1 ∨ i = 2 ∨ i = 3 by omega) with rfl | rfl | rfl | rfl
    · rw [pk_shlN _ 0 (by decide) (by omega)]
    · rw [pk_shlN _ 4 (by decide) (by omega)]
    · rw [pk_shlN _ 8 (by decide) (by omega)]
    · rw [pk_shlN _ 12 (by decide) (by omega)]
  rw [e, nI_or]
  congr 1
  have h2 : 16 ^ i = 2 ^ (4 * i) := by rw [Nat.pow_mul]
  have h3 := Nat.shiftLeft_add_eq_or_of_lt (i := 4 * i) (b := v) (by rw [← h2]; exact hv) m
  rw [Nat.shiftLeft_eq, ← h2] at h3
  rw [Nat.or_comm, ← h3, Nat.add_comm]
/-- what stands behind a time: how much slack each has, at most r -/
def cp_sl (ws : Nat → Nat) (now wound i : Nat) : Nat := if wound / 2 ^ i % 2 = 1 then ws i else cp_d now i
def cp_sb (ws : Nat → Nat) (r now wound : Nat) : Nat → Option Nat
  | 0 => some 0
  | i + 1 => match cp_sb ws r now wound i with
    | none => none
    | some v => if cp_sl ws now wound i = 0 then none else some (v + min (cp_sl ws now wound i - 1) r * 16 ^ i)
def cp_nx (ws : Nat → Nat) (n many r now wound : Nat) : Option Nat := if many < ck_pc wound then none else cp_sb ws r now wound n
def cp_oi : Option Nat → Int32
  | none => -1
  | some v => nI v
theorem cp_sb_lt {ws : Nat → Nat} {r now wound : Nat} (hr : r ≤ 10) : ∀ i v, cp_sb ws r now wound i = some v → v < 16 ^ i := by
  intro i
  induction i with
  | zero => intro v h; cases h; decide
  | succ i ih =>
    intro v h
    rw [cp_sb] at h
    split at h
    · cases h
    · rename_i v2 h2
      split at h
      · cases h
      · cases h
        have := ih _ h2
        have h3 : min (cp_sl ws now wound i - 1) r ≤ 15 := by omega
        have h4 := Nat.mul_le_mul_right (16 ^ i) h3
        rw [Nat.pow_succ]
        omega
theorem cp_sb_none {ws : Nat → Nat} {r now wound i : Nat} (h : cp_sb ws r now wound i = none) : ∀ n, i ≤ n → cp_sb ws r now wound n = none := by
  intro n
  induction n with
  | zero => intro hi; obtain rfl : i = 0 := by omega
            exact h
  | succ n ih =>
    intro hi
    by_cases e : i = n + 1
    · rw [← e]; exact h
    · rw [cp_sb, ih (by omega)]
/-- what a plan stands on -/
def cp_H (P : kx_P) (nt : Nat) (F WS N : Nat → Int32) (ws : Nat → Nat) (n days many : Nat) : Prop :=
  P 81 = kO 4 (kf (cr4 (.ref nt)) F) ∧ P 83 = kI 0 4 WS ∧ P 2 = kI 5 11 cj_nf ∧ P nt = kI 0 39973 N ∧ 144 ≤ nt ∧
  F 2 = nI n ∧ n ≤ 4 ∧ F 3 = nI days ∧ days ≤ 10 ∧ F 4 = nI many ∧ many ≤ 2 ∧ ∀ i, i < n → WS i = nI (ws i) ∧ ws i ≤ 30
theorem ck_pc_le : ∀ w, w < 256 → ck_pc w ≤ 8 := by decide +kernel
def bX4_stateBehind_0 : List kx_O := [(.iload_n 3, 3, 0, 0, .null)]
theorem kX4_stateBehind_0 : kx_oks kxL_X4 false cX4_stateBehind 0 bX4_stateBehind_0 = true := by decide +kernel
def bX4_stateBehind_4 : List kx_O := [(.aload_n 0, 0, 0, 0, .null), (.getfield 25, 4, 4, 0, .null), (.if_icmp .le 5, 13, 0, 0, .null)]
theorem kX4_stateBehind_4 : kx_oks kxL_X4 false cX4_stateBehind 4 bX4_stateBehind_4 = true := by decide +kernel
def bX4_stateBehind_11 : List kx_O := [(.iconst (-1), 0, 0, 0, .int (-1)), (.ireturn, 0, 0, 0, .null)]
theorem kX4_stateBehind_11 : kx_oks kxL_X4 false cX4_stateBehind 11 bX4_stateBehind_11 = true := by decide +kernel
def bX4_stateBehind_13 : List kx_O := [(.iconst 0, 0, 0, 0, .int 0), (.istore 4, 4, 0, 0, .null), (.iconst 0, 0, 0, 0, .int 0), (.istore 5, 5, 0, 0, .null)]
theorem kX4_stateBehind_13 : kx_oks kxL_X4 false cX4_stateBehind 13 bX4_stateBehind_13 = true := by decide +kernel
def bX4_stateBehind_19 : List kx_O := [(.iload 5, 5, 0, 0, .null), (.aload_n 0, 0, 0, 0, .null), (.getfield 18, 4, 2, 0, .null), (.if_icmp .ge 83, 108, 0, 0, .null)]
theorem kX4_stateBehind_19 : kx_oks kxL_X4 false cX4_stateBehind 19 bX4_stateBehind_19 = true := by decide +kernel
def bX4_stateBehind_28 : List kx_O := [(.iload 5, 5, 0, 0, .null), (.aload_n 0, 0, 0, 0, .null), (.getfield 15, 4, 1, 0, .null), (.arraylength, 0, 0, 0, .null), (.if_icmp .ge 73, 108, 0, 0, .null)]
theorem kX4_stateBehind_28 : kx_oks kxL_X4 false cX4_stateBehind 28 bX4_stateBehind_28 = true := by decide +kernel
def bX4_stateBehind_38 : List kx_O := [(.iload_n 3, 3, 0, 0, .null), (.iload 5, 5, 0, 0, .null), (.ishr, 0, 0, 0, .null), (.iconst 1, 0, 0, 0, .int 1), (.iand, 0, 0, 0, .null), (.iconst 1, 0, 0, 0, .int 1), (.if_icmp .ne 13, 58, 0, 0, .null)]
theorem kX4_stateBehind_38 : kx_oks kxL_X4 false cX4_stateBehind 38 bX4_stateBehind_38 = true := by decide +kernel
def bX4_stateBehind_48 : List kx_O := [(.aload_n 0, 0, 0, 0, .null), (.getfield 15, 4, 1, 0, .null), (.iload 5, 5, 0, 0, .null), (.iaload, 0, 0, 0, .null), (.goto 12, 67, 0, 0, .null)]
theorem kX4_stateBehind_48 : kx_oks kxL_X4 false cX4_stateBehind 48 bX4_stateBehind_48 = true := by decide +kernel
def bX4_stateBehind_58 : List kx_O := [(.iload_n 2, 2, 0, 0, .null), (.iconst 4, 0, 0, 0, .int 4), (.iload 5, 5, 0, 0, .null), (.imul, 0, 0, 0, .null), (.ishr, 0, 0, 0, .null), (.bipush 15, 0, 0, 0, .int 15), (.iand, 0, 0, 0, .null)]
theorem kX4_stateBehind_58 : kx_oks kxL_X4 false cX4_stateBehind 58 bX4_stateBehind_58 = true := by decide +kernel
def bX4_stateBehind_67 : List kx_O := [(.istore 6, 6, 0, 0, .null), (.iload 6, 6, 0, 0, .null), (.iconst 1, 0, 0, 0, .int 1), (.if_icmp .ge 5, 77, 0, 0, .null)]
theorem kX4_stateBehind_67 : kx_oks kxL_X4 false cX4_stateBehind 67 bX4_stateBehind_67 = true := by decide +kernel
def bX4_stateBehind_75 : List kx_O := [(.iconst (-1), 0, 0, 0, .int (-1)), (.ireturn, 0, 0, 0, .null)]
theorem kX4_stateBehind_75 : kx_oks kxL_X4 false cX4_stateBehind 75 bX4_stateBehind_75 = true := by decide +kernel
def bX4_stateBehind_77 : List kx_O := [(.iload 4, 4, 0, 0, .null), (.iload 6, 6, 0, 0, .null), (.iconst 1, 0, 0, 0, .int 1), (.isub, 0, 0, 0, .null), (.aload_n 0, 0, 0, 0, .null), (.getfield 22, 4, 3, 0, .null), (.iload_n 1, 1, 0, 0, .null), (.isub, 0, 0, 0, .null), (.iconst 1, 0, 0, 0, .int 1), (.isub, 0, 0, 0, .null)]
theorem kX4_stateBehind_77 : kx_oks kxL_X4 false cX4_stateBehind 77 bX4_stateBehind_77 = true := by decide +kernel
def bX4_stateBehind_94 : List kx_O := [(.iconst 4, 0, 0, 0, .int 4), (.iload 5, 5, 0, 0, .null), (.imul, 0, 0, 0, .null), (.ishl, 0, 0, 0, .null), (.ior, 0, 0, 0, .null), (.istore 4, 4, 0, 0, .null), (.iinc 5 1, 5, 0, 0, .int 1), (.goto (-86), 19, 0, 0, .null)]
theorem kX4_stateBehind_94 : kx_oks kxL_X4 false cX4_stateBehind 94 bX4_stateBehind_94 = true := by decide +kernel
def bX4_stateBehind_108 : List kx_O := [(.iload 4, 4, 0, 0, .null), (.ireturn, 0, 0, 0, .null)]
theorem kX4_stateBehind_108 : kx_oks kxL_X4 false cX4_stateBehind 108 bX4_stateBehind_108 = true := by decide +kernel
theorem dX4_stateBehind_1 : decode cX4_stateBehind 1 = .ok (.invokestatic 80, 3) := by decide +kernel
theorem dX4_stateBehind_91 : decode cX4_stateBehind 91 = .ok (.invokestatic 56, 3) := by decide +kernel
set_option maxRecDepth 100000 in
set_option maxHeartbeats 4000000 in
theorem ct_X4_stateBehind (l : Launch) (G : kx_G) {P : kx_P} {sz : Nat} {nt : Nat} {F WS N : Nat → Int32} {ws : Nat → Nat} {n days many : Nat} (hp : cp_H P nt F WS N ws n days many) {tm now wd : Nat} (htm : tm < days) (hnow : now < 65536) (hwd : wd < 16)  : kx_M l G sX4_stateBehind 2 0 0 [.ref 81, .int (nI tm), .int (nI now), .int (nI wd)] P sz (some (.int (cp_oi (cp_nx ws n many (days - tm - 1) now wd)))) P sz := by
  obtain ⟨p1, p2, p3, p4, p5, p6, p7, p8, p9, pa, pb, pc⟩ := hp
  have zb := cj_bc_n wd (by omega)
  have zp := ck_pc_le wd (by omega)
  refine kx_mk kx_tab kxLok_X4 (ini := false) [some (.ref 81), some (.int (nI tm)), some (.int (nI now)), some (.int (nI wd)), none, none, none] ⟨by decide, rfl, by decide, by decide⟩ (⟨_, rfl⟩) rfl rfl (fun g hB hC => ?_)
  by_cases hmy : many < ck_pc wd
  · have he : cp_nx ws n many (days - tm - 1) now wd = none := if_pos hmy
    refine hB bX4_stateBehind_0 _ _ _ _ _ _ _ kX4_stateBehind_0 ?_
    dsimp only [bX4_stateBehind_0, kx_wp, kx_step, kx_lI, kx_lL, kx_lA, kx_gl, kx_pI, kx_pL, kx_pR, kx_pA, kx_pV, kx_s1, kx_s2, kx_sl, kx_pre, kx_c2, kx_pl, kx_cmp, kx_oF, kx_eqN, kx_nil, kx_c1, kx_ft, kx_aI, kx_aL, kx_aR, kx_ln, Nat.reduceAdd, Option.toList, List.cons_append, List.nil_append, cf4_4, cf4_2, cf4_1, cf4_3]
    repeat (simp only [p1, p2, p3, p4, p6, p8, pa, nI_1, zb, ks_eq, ks_ss]; try dsimp only [kx_wp, kx_step, kx_lI, kx_lL, kx_lA, kx_gl, kx_pI, kx_pL, kx_pR, kx_pA, kx_pV, kx_s1, kx_s2, kx_sl, kx_pre, kx_c2, kx_pl, kx_cmp, kx_oF, kx_eqN, kx_nil, kx_c1, kx_ft, kx_aI, kx_aL, kx_aR, kx_ln, Nat.reduceAdd, Option.toList, List.cons_append, List.nil_append, cf4_4, cf4_2, cf4_1, cf4_3])
    repeat' apply And.intro
    all_goals try (first | with_reducible assumption | (with_reducible refine ck_nzI ?_; simp; done) | (with_reducible refine ck_nzL ?_; simp; done) | (with_reducible refine vp_in_nI ?_ ?_ <;> first | omega | decide) | (with_reducible refine Nat.le_of_ble_eq_true ?_; rfl) | omega | exact Or.inl trivial | exact Or.inr trivial | exact Or.inl rfl | exact Or.inr rfl)
    refine hC.2.1 80 _ _ _ _ _ _ _ _ _ _ _ _ _ _ _ _ _ lX4_80 (ct_J6_bitCount_0f7a4 l G) rfl rfl (Nat.le_of_ble_eq_true rfl) (by first | decide | omega) (by decide) (by omega) (by omega) dX4_stateBehind_1 ?_
    refine hB bX4_stateBehind_4 _ _ _ _ _ _ _ kX4_stateBehind_4 ?_
    dsimp only [bX4_stateBehind_4, kx_wp, kx_step, kx_lI, kx_lL, kx_lA, kx_gl, kx_pI, kx_pL, kx_pR, kx_pA, kx_pV, kx_s1, kx_s2, kx_sl, kx_pre, kx_c2, kx_pl, kx_cmp, kx_oF, kx_eqN, kx_nil, kx_c1, kx_ft, kx_aI, kx_aL, kx_aR, kx_ln, Nat.reduceAdd, Option.toList, List.cons_append, List.nil_append, cf4_4, cf4_2, cf4_1, cf4_3]
    repeat (simp only [p1, p2, p3, p4, p6, p8, pa, nI_1, zb, ks_eq, ks_ss]; try dsimp only [kx_wp, kx_step, kx_lI, kx_lL, kx_lA, kx_gl, kx_pI, kx_pL, kx_pR, kx_pA, kx_pV, kx_s1, kx_s2, kx_sl, kx_pre, kx_c2, kx_pl, kx_cmp, kx_oF, kx_eqN, kx_nil, kx_c1, kx_ft, kx_aI, kx_aL, kx_aR, kx_ln, Nat.reduceAdd, Option.toList, List.cons_append, List.nil_append, cf4_4, cf4_2, cf4_1, cf4_3])
    repeat' apply And.intro
    all_goals try (first | with_reducible assumption | (with_reducible refine ck_nzI ?_; simp; done) | (with_reducible refine ck_nzL ?_; simp; done) | (with_reducible refine vp_in_nI ?_ ?_ <;> first | omega | decide) | (with_reducible refine Nat.le_of_ble_eq_true ?_; rfl) | omega | exact Or.inl trivial | exact Or.inr trivial | exact Or.inl rfl | exact Or.inr rfl)
    · intro zc8
      first | exact absurd rfl zc8 | exact absurd zc8 (by decide) | exact absurd (by decide) zc8 | (exfalso; first | exact absurd ((nI_leI (a := ck_pc wd) (b := many) (by omega) (by omega)).mp zc8) (by omega) | exact absurd ((nI_leI (a := ck_pc wd) (b := many) (by omega) (by omega)).mpr (by omega)) zc8 | exact absurd ((nI_leI (a := n) (b := k) (by omega) (by omega)).mpr (by omega)) zc25 | exact absurd ((nI_leI (a := n) (b := k) (by omega) (by omega)).mp zc25) (by omega) | exact absurd ((nI_leI (a := 4) (b := k) (by omega) (by omega)).mp zc35) (by omega) | exact zc45 hbt | exact hbt (Decidable.not_not.mp zc45) | exact hbt zc45 | exact absurd ((nI_leI (a := 1) (b := sl) (by omega) (by omega)).mpr (by omega)) zc72 | exact absurd ((nI_leI (a := 1) (b := sl) (by omega) (by omega)).mp zc72) (by omega)) | (exfalso; simp_all; done)
    · intro zc8
      with_reducible first | have ze8 := Int32.not_le.mp zc8 | have ze8 := zc8
      refine hB bX4_stateBehind_11 _ _ _ _ _ _ _ kX4_stateBehind_11 ?_
      dsimp only [bX4_stateBehind_11, kx_wp, kx_step, kx_lI, kx_lL, kx_lA, kx_gl, kx_pI, kx_pL, kx_pR, kx_pA, kx_pV, kx_s1, kx_s2, kx_sl, kx_pre, kx_c2, kx_pl, kx_cmp, kx_oF, kx_eqN, kx_nil, kx_c1, kx_ft, kx_aI, kx_aL, kx_aR, kx_ln, Nat.reduceAdd, Option.toList, List.cons_append, List.nil_append, cf4_4, cf4_2, cf4_1, cf4_3]
      repeat (simp only [p1, p2, p3, p4, p6, p8, pa, nI_1, zb, ks_eq, ks_ss]; try dsimp only [kx_wp, kx_step, kx_lI, kx_lL, kx_lA, kx_gl, kx_pI, kx_pL, kx_pR, kx_pA, kx_pV, kx_s1, kx_s2, kx_sl, kx_pre, kx_c2, kx_pl, kx_cmp, kx_oF, kx_eqN, kx_nil, kx_c1, kx_ft, kx_aI, kx_aL, kx_aR, kx_ln, Nat.reduceAdd, Option.toList, List.cons_append, List.nil_append, cf4_4, cf4_2, cf4_1, cf4_3])
      all_goals (repeat' apply And.intro)
      all_goals ((try clear hB hC); first | exact True.intro | (rw [he]; rfl) | (rw [← he]; rfl) | trace_state)
  have he0 : cp_nx ws n many (days - tm - 1) now wd = cp_sb ws (days - tm - 1) now wd (n) := if_neg hmy
  rw [he0] at hB
  have loop19 : ∀ (n9 k v : Nat) (x : Option Value), k + n9 = n → cp_sb ws (days - tm - 1) now wd (k) = some v → g 19 [some (.ref 81), some (.int (nI tm)), some (.int (nI now)), some (.int (nI wd)), some (.int (nI (v))), some (.int (nI (k))), x] [] P sz 0 0 := by
    intro n9
    induction n9 with
    | zero =>
      intro k v x hk he
      obtain rfl : k = n := by omega
      refine hB bX4_stateBehind_19 _ _ _ _ _ _ _ kX4_stateBehind_19 ?_
      dsimp only [bX4_stateBehind_19, kx_wp, kx_step, kx_lI, kx_lL, kx_lA, kx_gl, kx_pI, kx_pL, kx_pR, kx_pA, kx_pV, kx_s1, kx_s2, kx_sl, kx_pre, kx_c2, kx_pl, kx_cmp, kx_oF, kx_eqN, kx_nil, kx_c1, kx_ft, kx_aI, kx_aL, kx_aR, kx_ln, Nat.reduceAdd, Option.toList, List.cons_append, List.nil_append, cf4_4, cf4_2, cf4_1, cf4_3]
      repeat (simp only [p1, p2, p3, p4, p6, p8, pa, nI_1, zb, ks_eq, ks_ss]; try dsimp only [kx_wp, kx_step, kx_lI, kx_lL, kx_lA, kx_gl, kx_pI, kx_pL, kx_pR, kx_pA, kx_pV, kx_s1, kx_s2, kx_sl, kx_pre, kx_c2, kx_pl, kx_cmp, kx_oF, kx_eqN, kx_nil, kx_c1, kx_ft, kx_aI, kx_aL, kx_aR, kx_ln, Nat.reduceAdd, Option.toList, List.cons_append, List.nil_append, cf4_4, cf4_2, cf4_1, cf4_3])
      repeat' apply And.intro
      all_goals try (first | with_reducible assumption | (with_reducible refine ck_nzI ?_; simp; done) | (with_reducible refine ck_nzL ?_; simp; done) | (with_reducible refine vp_in_nI ?_ ?_ <;> first | omega | decide) | (with_reducible refine Nat.le_of_ble_eq_true ?_; rfl) | omega | exact Or.inl trivial | exact Or.inr trivial | exact Or.inl rfl | exact Or.inr rfl)
      · intro zc25
        with_reducible first | have ze25 := Int32.not_lt.mpr zc25 | have ze25 := zc25
        refine hB bX4_stateBehind_108 _ _ _ _ _ _ _ kX4_stateBehind_108 ?_
        dsimp only [bX4_stateBehind_108, kx_wp, kx_step, kx_lI, kx_lL, kx_lA, kx_gl, kx_pI, kx_pL, kx_pR, kx_pA, kx_pV, kx_s1, kx_s2, kx_sl, kx_pre, kx_c2, kx_pl, kx_cmp, kx_oF, kx_eqN, kx_nil, kx_c1, kx_ft, kx_aI, kx_aL, kx_aR, kx_ln, Nat.reduceAdd, Option.toList, List.cons_append, List.nil_append, cf4_4, cf4_2, cf4_1, cf4_3]
        repeat (simp only [p1, p2, p3, p4, p6, p8, pa, nI_1, zb, ks_eq, ks_ss]; try dsimp only [kx_wp, kx_step, kx_lI, kx_lL, kx_lA, kx_gl, kx_pI, kx_pL, kx_pR, kx_pA, kx_pV, kx_s1, kx_s2, kx_sl, kx_pre, kx_c2, kx_pl, kx_cmp, kx_oF, kx_eqN, kx_nil, kx_c1, kx_ft, kx_aI, kx_aL, kx_aR, kx_ln, Nat.reduceAdd, Option.toList, List.cons_append, List.nil_append, cf4_4, cf4_2, cf4_1, cf4_3])
        all_goals (repeat' apply And.intro)
        all_goals ((try clear hB hC); first | exact True.intro | (rw [he]; rfl) | (rw [← he]; rfl) | trace_state)
      · intro zc25
        first | exact absurd rfl zc25 | exact absurd zc25 (by decide) | exact absurd (by decide) zc25 | (exfalso; first | exact absurd ((nI_leI (a := ck_pc wd) (b := many) (by omega) (by omega)).mp zc8) (by omega) | exact absurd ((nI_leI (a := ck_pc wd) (b := many) (by omega) (by omega)).mpr (by omega)) zc8 | exact absurd ((nI_leI (a := n) (b := k) (by omega) (by omega)).mpr (by omega)) zc25 | exact absurd ((nI_leI (a := n) (b := k) (by omega) (by omega)).mp zc25) (by omega) | exact absurd ((nI_leI (a := 4) (b := k) (by omega) (by omega)).mp zc35) (by omega) | exact zc45 hbt | exact hbt (Decidable.not_not.mp zc45) | exact hbt zc45 | exact absurd ((nI_leI (a := 1) (b := sl) (by omega) (by omega)).mpr (by omega)) zc72 | exact absurd ((nI_leI (a := 1) (b := sl) (by omega) (by omega)).mp zc72) (by omega)) | (exfalso; simp_all; done)
    | succ n9 ih =>
      intro k v x hk he
      have hv := cp_sb_lt (by omega) k v he
      obtain ⟨q1, q2⟩ := pc k (by omega)
      have z1 : (4 : Int32) * nI k = nI (4 * k) := pk_mul 4 k
      have z2 := cp_dg hnow (show k < 4 by omega)
      have z3 := ck_bt wd (by omega) k (by omega)
      have z4 : nI days - nI tm - 1 = nI (days - tm - 1) := by rw [pk_sub (by omega)]; exact pk_sub (b := 1) (by omega)
      have c1 : (nI k).toNatClampNeg = k := nI_clamp (by omega)
      have hsl : ∃ sl, cp_sl ws now wd k = sl ∧ sl ≤ 30 := ⟨_, rfl, by unfold cp_sl cp_d; split <;> omega⟩
      obtain ⟨sl, hs1, hs2⟩ := hsl
      have hsb : cp_sb ws (days - tm - 1) now wd (k + 1) = if sl = 0 then none else some (v + min (sl - 1) (days - tm - 1) * 16 ^ k) := by rw [cp_sb, he, hs1]
      by_cases hbt : nI (wd / 2 ^ k % 2) = 1
      · have h1 : wd / 2 ^ k % 2 = 1 := (nI_eq (b := 1) (by omega) (by omega)).mp hbt
        have hs3 : nI (ws k) = nI sl := by rw [← hs1]; unfold cp_sl; rw [if_pos h1]
        by_cases h0 : sl = 0
        · refine hB bX4_stateBehind_19 _ _ _ _ _ _ _ kX4_stateBehind_19 ?_
          dsimp only [bX4_stateBehind_19, kx_wp, kx_step, kx_lI, kx_lL, kx_lA, kx_gl, kx_pI, kx_pL, kx_pR, kx_pA, kx_pV, kx_s1, kx_s2, kx_sl, kx_pre, kx_c2, kx_pl, kx_cmp, kx_oF, kx_eqN, kx_nil, kx_c1, kx_ft, kx_aI, kx_aL, kx_aR, kx_ln, Nat.reduceAdd, Option.toList, List.cons_append, List.nil_append, cf4_4, cf4_2, cf4_1, cf4_3]
          repeat (simp only [p1, p2, p3, p4, p6, p8, pa, nI_1, zb, ks_eq, ks_ss, q1, z1, z2, z3, z4, c1, hs3]; try dsimp only [kx_wp, kx_step, kx_lI, kx_lL, kx_lA, kx_gl, kx_pI, kx_pL, kx_pR, kx_pA, kx_pV, kx_s1, kx_s2, kx_sl, kx_pre, kx_c2, kx_pl, kx_cmp, kx_oF, kx_eqN, kx_nil, kx_c1, kx_ft, kx_aI, kx_aL, kx_aR, kx_ln, Nat.reduceAdd, Option.toList, List.cons_append, List.nil_append, cf4_4, cf4_2, cf4_1, cf4_3])
          repeat' apply And.intro
          all_goals try (first | with_reducible assumption | (with_reducible refine ck_nzI ?_; simp; done) | (with_reducible refine ck_nzL ?_; simp; done) | (with_reducible refine vp_in_nI ?_ ?_ <;> first | omega | decide) | (with_reducible refine Nat.le_of_ble_eq_true ?_; rfl) | omega | exact Or.inl trivial | exact Or.inr trivial | exact Or.inl rfl | exact Or.inr rfl | exact vp_in_nI (by omega) (by decide))
          · intro zc25
            first | exact absurd rfl zc25 | exact absurd zc25 (by decide) | exact absurd (by decide) zc25 | (exfalso; first | exact absurd ((nI_leI (a := ck_pc wd) (b := many) (by omega) (by omega)).mp zc8) (by omega) | exact absurd ((nI_leI (a := ck_pc wd) (b := many) (by omega) (by omega)).mpr (by omega)) zc8 | exact absurd ((nI_leI (a := n) (b := k) (by omega) (by omega)).mpr (by omega)) zc25 | exact absurd ((nI_leI (a := n) (b := k) (by omega) (by omega)).mp zc25) (by omega) | exact absurd ((nI_leI (a := 4) (b := k) (by omega) (by omega)).mp zc35) (by omega) | exact zc45 hbt | exact hbt (Decidable.not_not.mp zc45) | exact hbt zc45 | exact absurd ((nI_leI (a := 1) (b := sl) (by omega) (by omega)).mpr (by omega)) zc72 | exact absurd ((nI_leI (a := 1) (b := sl) (by omega) (by omega)).mp zc72) (by omega)) | (exfalso; simp_all; done)
          · intro zc25
            with_reducible first | have ze25 := Int32.not_le.mp zc25 | have ze25 := zc25
            refine hB bX4_stateBehind_28 _ _ _ _ _ _ _ kX4_stateBehind_28 ?_
            dsimp only [bX4_stateBehind_28, kx_wp, kx_step, kx_lI, kx_lL, kx_lA, kx_gl, kx_pI, kx_pL, kx_pR, kx_pA, kx_pV, kx_s1, kx_s2, kx_sl, kx_pre, kx_c2, kx_pl, kx_cmp, kx_oF, kx_eqN, kx_nil, kx_c1, kx_ft, kx_aI, kx_aL, kx_aR, kx_ln, Nat.reduceAdd, Option.toList, List.cons_append, List.nil_append, cf4_4, cf4_2, cf4_1, cf4_3]
            repeat (simp only [p1, p2, p3, p4, p6, p8, pa, nI_1, zb, ks_eq, ks_ss, q1, z1, z2, z3, z4, c1, hs3]; try dsimp only [kx_wp, kx_step, kx_lI, kx_lL, kx_lA, kx_gl, kx_pI, kx_pL, kx_pR, kx_pA, kx_pV, kx_s1, kx_s2, kx_sl, kx_pre, kx_c2, kx_pl, kx_cmp, kx_oF, kx_eqN, kx_nil, kx_c1, kx_ft, kx_aI, kx_aL, kx_aR, kx_ln, Nat.reduceAdd, Option.toList, List.cons_append, List.nil_append, cf4_4, cf4_2, cf4_1, cf4_3])
            repeat' apply And.intro
            all_goals try (first | with_reducible assumption | (with_reducible refine ck_nzI ?_; simp; done) | (with_reducible refine ck_nzL ?_; simp; done) | (with_reducible refine vp_in_nI ?_ ?_ <;> first | omega | decide) | (with_reducible refine Nat.le_of_ble_eq_true ?_; rfl) | omega | exact Or.inl trivial | exact Or.inr trivial | exact Or.inl rfl | exact Or.inr rfl | exact vp_in_nI (by omega) (by decide))
            · intro zc35
              first | exact absurd rfl zc35 | exact absurd zc35 (by decide) | exact absurd (by decide) zc35 | (exfalso; first | exact absurd ((nI_leI (a := ck_pc wd) (b := many) (by omega) (by omega)).mp zc8) (by omega) | exact absurd ((nI_leI (a := ck_pc wd) (b := many) (by omega) (by omega)).mpr (by omega)) zc8 | exact absurd ((nI_leI (a := n) (b := k) (by omega) (by omega)).mpr (by omega)) zc25 | exact absurd ((nI_leI (a := n) (b := k) (by omega) (by omega)).mp zc25) (by omega) | exact absurd ((nI_leI (a := 4) (b := k) (by omega) (by omega)).mp zc35) (by omega) | exact zc45 hbt | exact hbt (Decidable.not_not.mp zc45) | exact hbt zc45 | exact absurd ((nI_leI (a := 1) (b := sl) (by omega) (by omega)).mpr (by omega)) zc72 | exact absurd ((nI_leI (a := 1) (b := sl) (by omega) (by omega)).mp zc72) (by omega)) | (exfalso; simp_all; done)
            · intro zc35
              with_reducible first | have ze35 := Int32.not_le.mp zc35 | have ze35 := zc35
              refine hB bX4_stateBehind_38 _ _ _ _ _ _ _ kX4_stateBehind_38 ?_
              dsimp only [bX4_stateBehind_38, kx_wp, kx_step, kx_lI, kx_lL, kx_lA, kx_gl, kx_pI, kx_pL, kx_pR, kx_pA, kx_pV, kx_s1, kx_s2, kx_sl, kx_pre, kx_c2, kx_pl, kx_cmp, kx_oF, kx_eqN, kx_nil, kx_c1, kx_ft, kx_aI, kx_aL, kx_aR, kx_ln, Nat.reduceAdd, Option.toList, List.cons_append, List.nil_append, cf4_4, cf4_2, cf4_1, cf4_3]
              repeat (simp only [p1, p2, p3, p4, p6, p8, pa, nI_1, zb, ks_eq, ks_ss, q1, z1, z2, z3, z4, c1, hs3]; try dsimp only [kx_wp, kx_step, kx_lI, kx_lL, kx_lA, kx_gl, kx_pI, kx_pL, kx_pR, kx_pA, kx_pV, kx_s1, kx_s2, kx_sl, kx_pre, kx_c2, kx_pl, kx_cmp, kx_oF, kx_eqN, kx_nil, kx_c1, kx_ft, kx_aI, kx_aL, kx_aR, kx_ln, Nat.reduceAdd, Option.toList, List.cons_append, List.nil_append, cf4_4, cf4_2, cf4_1, cf4_3])
              repeat' apply And.intro
              all_goals try (first | with_reducible assumption | (with_reducible refine ck_nzI ?_; simp; done) | (with_reducible refine ck_nzL ?_; simp; done) | (with_reducible refine vp_in_nI ?_ ?_ <;> first | omega | decide) | (with_reducible refine Nat.le_of_ble_eq_true ?_; rfl) | omega | exact Or.inl trivial | exact Or.inr trivial | exact Or.inl rfl | exact Or.inr rfl | exact vp_in_nI (by omega) (by decide))
              · intro zc45
                first | exact absurd rfl zc45 | exact absurd zc45 (by decide) | exact absurd (by decide) zc45 | (exfalso; first | exact absurd ((nI_leI (a := ck_pc wd) (b := many) (by omega) (by omega)).mp zc8) (by omega) | exact absurd ((nI_leI (a := ck_pc wd) (b := many) (by omega) (by omega)).mpr (by omega)) zc8 | exact absurd ((nI_leI (a := n) (b := k) (by omega) (by omega)).mpr (by omega)) zc25 | exact absurd ((nI_leI (a := n) (b := k) (by omega) (by omega)).mp zc25) (by omega) | exact absurd ((nI_leI (a := 4) (b := k) (by omega) (by omega)).mp zc35) (by omega) | exact zc45 hbt | exact hbt (Decidable.not_not.mp zc45) | exact hbt zc45 | exact absurd ((nI_leI (a := 1) (b := sl) (by omega) (by omega)).mpr (by omega)) zc72 | exact absurd ((nI_leI (a := 1) (b := sl) (by omega) (by omega)).mp zc72) (by omega)) | (exfalso; simp_all; done)
              · intro zc45
                with_reducible first | have ze45 := Decidable.not_not.mp zc45 | have ze45 := zc45
                refine hB bX4_stateBehind_48 _ _ _ _ _ _ _ kX4_stateBehind_48 ?_
                dsimp only [bX4_stateBehind_48, kx_wp, kx_step, kx_lI, kx_lL, kx_lA, kx_gl, kx_pI, kx_pL, kx_pR, kx_pA, kx_pV, kx_s1, kx_s2, kx_sl, kx_pre, kx_c2, kx_pl, kx_cmp, kx_oF, kx_eqN, kx_nil, kx_c1, kx_ft, kx_aI, kx_aL, kx_aR, kx_ln, Nat.reduceAdd, Option.toList, List.cons_append, List.nil_append, cf4_4, cf4_2, cf4_1, cf4_3]
                repeat (simp only [p1, p2, p3, p4, p6, p8, pa, nI_1, zb, ks_eq, ks_ss, q1, z1, z2, z3, z4, c1, hs3]; try dsimp only [kx_wp, kx_step, kx_lI, kx_lL, kx_lA, kx_gl, kx_pI, kx_pL, kx_pR, kx_pA, kx_pV, kx_s1, kx_s2, kx_sl, kx_pre, kx_c2, kx_pl, kx_cmp, kx_oF, kx_eqN, kx_nil, kx_c1, kx_ft, kx_aI, kx_aL, kx_aR, kx_ln, Nat.reduceAdd, Option.toList, List.cons_append, List.nil_append, cf4_4, cf4_2, cf4_1, cf4_3])
                repeat' apply And.intro
                all_goals try (first | with_reducible assumption | (with_reducible refine ck_nzI ?_; simp; done) | (with_reducible refine ck_nzL ?_; simp; done) | (with_reducible refine vp_in_nI ?_ ?_ <;> first | omega | decide) | (with_reducible refine Nat.le_of_ble_eq_true ?_; rfl) | omega | exact Or.inl trivial | exact Or.inr trivial | exact Or.inl rfl | exact Or.inr rfl | exact vp_in_nI (by omega) (by decide))
                refine hB bX4_stateBehind_67 _ _ _ _ _ _ _ kX4_stateBehind_67 ?_
                dsimp only [bX4_stateBehind_67, kx_wp, kx_step, kx_lI, kx_lL, kx_lA, kx_gl, kx_pI, kx_pL, kx_pR, kx_pA, kx_pV, kx_s1, kx_s2, kx_sl, kx_pre, kx_c2, kx_pl, kx_cmp, kx_oF, kx_eqN, kx_nil, kx_c1, kx_ft, kx_aI, kx_aL, kx_aR, kx_ln, Nat.reduceAdd, Option.toList, List.cons_append, List.nil_append, cf4_4, cf4_2, cf4_1, cf4_3]
                repeat (simp only [p1, p2, p3, p4, p6, p8, pa, nI_1, zb, ks_eq, ks_ss, q1, z1, z2, z3, z4, c1, hs3]; try dsimp only [kx_wp, kx_step, kx_lI, kx_lL, kx_lA, kx_gl, kx_pI, kx_pL, kx_pR, kx_pA, kx_pV, kx_s1, kx_s2, kx_sl, kx_pre, kx_c2, kx_pl, kx_cmp, kx_oF, kx_eqN, kx_nil, kx_c1, kx_ft, kx_aI, kx_aL, kx_aR, kx_ln, Nat.reduceAdd, Option.toList, List.cons_append, List.nil_append, cf4_4, cf4_2, cf4_1, cf4_3])
                repeat' apply And.intro
                all_goals try (first | with_reducible assumption | (with_reducible refine ck_nzI ?_; simp; done) | (with_reducible refine ck_nzL ?_; simp; done) | (with_reducible refine vp_in_nI ?_ ?_ <;> first | omega | decide) | (with_reducible refine Nat.le_of_ble_eq_true ?_; rfl) | omega | exact Or.inl trivial | exact Or.inr trivial | exact Or.inl rfl | exact Or.inr rfl | exact vp_in_nI (by omega) (by decide))
                · intro zc72
                  first | exact absurd rfl zc72 | exact absurd zc72 (by decide) | exact absurd (by decide) zc72 | (exfalso; first | exact absurd ((nI_leI (a := ck_pc wd) (b := many) (by omega) (by omega)).mp zc8) (by omega) | exact absurd ((nI_leI (a := ck_pc wd) (b := many) (by omega) (by omega)).mpr (by omega)) zc8 | exact absurd ((nI_leI (a := n) (b := k) (by omega) (by omega)).mpr (by omega)) zc25 | exact absurd ((nI_leI (a := n) (b := k) (by omega) (by omega)).mp zc25) (by omega) | exact absurd ((nI_leI (a := 4) (b := k) (by omega) (by omega)).mp zc35) (by omega) | exact zc45 hbt | exact hbt (Decidable.not_not.mp zc45) | exact hbt zc45 | exact absurd ((nI_leI (a := 1) (b := sl) (by omega) (by omega)).mpr (by omega)) zc72 | exact absurd ((nI_leI (a := 1) (b := sl) (by omega) (by omega)).mp zc72) (by omega)) | (exfalso; simp_all; done)
                · intro zc72
                  with_reducible first | have ze72 := Int32.not_le.mp zc72 | have ze72 := zc72
                  refine hB bX4_stateBehind_75 _ _ _ _ _ _ _ kX4_stateBehind_75 ?_
                  dsimp only [bX4_stateBehind_75, kx_wp, kx_step, kx_lI, kx_lL, kx_lA, kx_gl, kx_pI, kx_pL, kx_pR, kx_pA, kx_pV, kx_s1, kx_s2, kx_sl, kx_pre, kx_c2, kx_pl, kx_cmp, kx_oF, kx_eqN, kx_nil, kx_c1, kx_ft, kx_aI, kx_aL, kx_aR, kx_ln, Nat.reduceAdd, Option.toList, List.cons_append, List.nil_append, cf4_4, cf4_2, cf4_1, cf4_3]
                  repeat (simp only [p1, p2, p3, p4, p6, p8, pa, nI_1, zb, ks_eq, ks_ss, q1, z1, z2, z3, z4, c1, hs3]; try dsimp only [kx_wp, kx_step, kx_lI, kx_lL, kx_lA, kx_gl, kx_pI, kx_pL, kx_pR, kx_pA, kx_pV, kx_s1, kx_s2, kx_sl, kx_pre, kx_c2, kx_pl, kx_cmp, kx_oF, kx_eqN, kx_nil, kx_c1, kx_ft, kx_aI, kx_aL, kx_aR, kx_ln, Nat.reduceAdd, Option.toList, List.cons_append, List.nil_append, cf4_4, cf4_2, cf4_1, cf4_3])
                  all_goals (repeat' apply And.intro)
                  all_goals ((try clear hB hC); first | exact True.intro | (rw [cp_sb_none (i := k + 1) (by rw [hsb, if_pos h0]) n (by omega)]; rfl) | trace_state)
        · rw [if_neg h0] at hsb
          have y1 : nI sl - 1 = nI (sl - 1) := pk_sub (b := 1) (by omega)
          have y2 : cj_min (nI (sl - 1)) (nI (days - tm - 1)) = nI (min (sl - 1) (days - tm - 1)) := cj_min_n (by omega) (by omega)
          have y3 := cp_sh hv (show min (sl - 1) (days - tm - 1) < 16 by omega) (show k < 4 by omega)
          refine hB bX4_stateBehind_19 _ _ _ _ _ _ _ kX4_stateBehind_19 ?_
          dsimp only [bX4_stateBehind_19, kx_wp, kx_step, kx_lI, kx_lL, kx_lA, kx_gl, kx_pI, kx_pL, kx_pR, kx_pA, kx_pV, kx_s1, kx_s2, kx_sl, kx_pre, kx_c2, kx_pl, kx_cmp, kx_oF, kx_eqN, kx_nil, kx_c1, kx_ft, kx_aI, kx_aL, kx_aR, kx_ln, Nat.reduceAdd, Option.toList, List.cons_append, List.nil_append, cf4_4, cf4_2, cf4_1, cf4_3]
          repeat (simp only [p1, p2, p3, p4, p6, p8, pa, nI_1, zb, ks_eq, ks_ss, q1, z1, z2, z3, z4, c1, hs3, y1, y2, y3]; try dsimp only [kx_wp, kx_step, kx_lI, kx_lL, kx_lA, kx_gl, kx_pI, kx_pL, kx_pR, kx_pA, kx_pV, kx_s1, kx_s2, kx_sl, kx_pre, kx_c2, kx_pl, kx_cmp, kx_oF, kx_eqN, kx_nil, kx_c1, kx_ft, kx_aI, kx_aL, kx_aR, kx_ln, Nat.reduceAdd, Option.toList, List.cons_append, List.nil_append, cf4_4, cf4_2, cf4_1, cf4_3])
          repeat' apply And.intro
          all_goals try (first | with_reducible assumption | (with_reducible refine ck_nzI ?_; simp; done) | (with_reducible refine ck_nzL ?_; simp; done) | (with_reducible refine vp_in_nI ?_ ?_ <;> first | omega | decide) | (with_reducible refine Nat.le_of_ble_eq_true ?_; rfl) | omega | exact Or.inl trivial | exact Or.inr trivial | exact Or.inl rfl | exact Or.inr rfl | exact vp_in_nI (by omega) (by decide))
          · intro zc25
            first | exact absurd rfl zc25 | exact absurd zc25 (by decide) | exact absurd (by decide) zc25 | (exfalso; first | exact absurd ((nI_leI (a := ck_pc wd) (b := many) (by omega) (by omega)).mp zc8) (by omega) | exact absurd ((nI_leI (a := ck_pc wd) (b := many) (by omega) (by omega)).mpr (by omega)) zc8 | exact absurd ((nI_leI (a := n) (b := k) (by omega) (by omega)).mpr (by omega)) zc25 | exact absurd ((nI_leI (a := n) (b := k) (by omega) (by omega)).mp zc25) (by omega) | exact absurd ((nI_leI (a := 4) (b := k) (by omega) (by omega)).mp zc35) (by omega) | exact zc45 hbt | exact hbt (Decidable.not_not.mp zc45) | exact hbt zc45 | exact absurd ((nI_leI (a := 1) (b := sl) (by omega) (by omega)).mpr (by omega)) zc72 | exact absurd ((nI_leI (a := 1) (b := sl) (by omega) (by omega)).mp zc72) (by omega)) | (exfalso; simp_all; done)
          · intro zc25
            with_reducible first | have ze25 := Int32.not_le.mp zc25 | have ze25 := zc25
            refine hB bX4_stateBehind_28 _ _ _ _ _ _ _ kX4_stateBehind_28 ?_
            dsimp only [bX4_stateBehind_28, kx_wp, kx_step, kx_lI, kx_lL, kx_lA, kx_gl, kx_pI, kx_pL, kx_pR, kx_pA, kx_pV, kx_s1, kx_s2, kx_sl, kx_pre, kx_c2, kx_pl, kx_cmp, kx_oF, kx_eqN, kx_nil, kx_c1, kx_ft, kx_aI, kx_aL, kx_aR, kx_ln, Nat.reduceAdd, Option.toList, List.cons_append, List.nil_append, cf4_4, cf4_2, cf4_1, cf4_3]
            repeat (simp only [p1, p2, p3, p4, p6, p8, pa, nI_1, zb, ks_eq, ks_ss, q1, z1, z2, z3, z4, c1, hs3, y1, y2, y3]; try dsimp only [kx_wp, kx_step, kx_lI, kx_lL, kx_lA, kx_gl, kx_pI, kx_pL, kx_pR, kx_pA, kx_pV, kx_s1, kx_s2, kx_sl, kx_pre, kx_c2, kx_pl, kx_cmp, kx_oF, kx_eqN, kx_nil, kx_c1, kx_ft, kx_aI, kx_aL, kx_aR, kx_ln, Nat.reduceAdd, Option.toList, List.cons_append, List.nil_append, cf4_4, cf4_2, cf4_1, cf4_3])
            repeat' apply And.intro
            all_goals try (first | with_reducible assumption | (with_reducible refine ck_nzI ?_; simp; done) | (with_reducible refine ck_nzL ?_; simp; done) | (with_reducible refine vp_in_nI ?_ ?_ <;> first | omega | decide) | (with_reducible refine Nat.le_of_ble_eq_true ?_; rfl) | omega | exact Or.inl trivial | exact Or.inr trivial | exact Or.inl rfl | exact Or.inr rfl | exact vp_in_nI (by omega) (by decide))
            · intro zc35
              first | exact absurd rfl zc35 | exact absurd zc35 (by decide) | exact absurd (by decide) zc35 | (exfalso; first | exact absurd ((nI_leI (a := ck_pc wd) (b := many) (by omega) (by omega)).mp zc8) (by omega) | exact absurd ((nI_leI (a := ck_pc wd) (b := many) (by omega) (by omega)).mpr (by omega)) zc8 | exact absurd ((nI_leI (a := n) (b := k) (by omega) (by omega)).mpr (by omega)) zc25 | exact absurd ((nI_leI (a := n) (b := k) (by omega) (by omega)).mp zc25) (by omega) | exact absurd ((nI_leI (a := 4) (b := k) (by omega) (by omega)).mp zc35) (by omega) | exact zc45 hbt | exact hbt (Decidable.not_not.mp zc45) | exact hbt zc45 | exact absurd ((nI_leI (a := 1) (b := sl) (by omega) (by omega)).mpr (by omega)) zc72 | exact absurd ((nI_leI (a := 1) (b := sl) (by omega) (by omega)).mp zc72) (by omega)) | (exfalso; simp_all; done)
            · intro zc35
              with_reducible first | have ze35 := Int32.not_le.mp zc35 | have ze35 := zc35
              refine hB bX4_stateBehind_38 _ _ _ _ _ _ _ kX4_stateBehind_38 ?_
              dsimp only [bX4_stateBehind_38, kx_wp, kx_step, kx_lI, kx_lL, kx_lA, kx_gl, kx_pI, kx_pL, kx_pR, kx_pA, kx_pV, kx_s1, kx_s2, kx_sl, kx_pre, kx_c2, kx_pl, kx_cmp, kx_oF, kx_eqN, kx_nil, kx_c1, kx_ft, kx_aI, kx_aL, kx_aR, kx_ln, Nat.reduceAdd, Option.toList, List.cons_append, List.nil_append, cf4_4, cf4_2, cf4_1, cf4_3]
              repeat (simp only [p1, p2, p3, p4, p6, p8, pa, nI_1, zb, ks_eq, ks_ss, q1, z1, z2, z3, z4, c1, hs3, y1, y2, y3]; try dsimp only [kx_wp, kx_step, kx_lI, kx_lL, kx_lA, kx_gl, kx_pI, kx_pL, kx_pR, kx_pA, kx_pV, kx_s1, kx_s2, kx_sl, kx_pre, kx_c2, kx_pl, kx_cmp, kx_oF, kx_eqN, kx_nil, kx_c1, kx_ft, kx_aI, kx_aL, kx_aR, kx_ln, Nat.reduceAdd, Option.toList, List.cons_append, List.nil_append, cf4_4, cf4_2, cf4_1, cf4_3])
              repeat' apply And.intro
              all_goals try (first | with_reducible assumption | (with_reducible refine ck_nzI ?_; simp; done) | (with_reducible refine ck_nzL ?_; simp; done) | (with_reducible refine vp_in_nI ?_ ?_ <;> first | omega | decide) | (with_reducible refine Nat.le_of_ble_eq_true ?_; rfl) | omega | exact Or.inl trivial | exact Or.inr trivial | exact Or.inl rfl | exact Or.inr rfl | exact vp_in_nI (by omega) (by decide))
              · intro zc45
                first | exact absurd rfl zc45 | exact absurd zc45 (by decide) | exact absurd (by decide) zc45 | (exfalso; first | exact absurd ((nI_leI (a := ck_pc wd) (b := many) (by omega) (by omega)).mp zc8) (by omega) | exact absurd ((nI_leI (a := ck_pc wd) (b := many) (by omega) (by omega)).mpr (by omega)) zc8 | exact absurd ((nI_leI (a := n) (b := k) (by omega) (by omega)).mpr (by omega)) zc25 | exact absurd ((nI_leI (a := n) (b := k) (by omega) (by omega)).mp zc25) (by omega) | exact absurd ((nI_leI (a := 4) (b := k) (by omega) (by omega)).mp zc35) (by omega) | exact zc45 hbt | exact hbt (Decidable.not_not.mp zc45) | exact hbt zc45 | exact absurd ((nI_leI (a := 1) (b := sl) (by omega) (by omega)).mpr (by omega)) zc72 | exact absurd ((nI_leI (a := 1) (b := sl) (by omega) (by omega)).mp zc72) (by omega)) | (exfalso; simp_all; done)
              · intro zc45
                with_reducible first | have ze45 := Decidable.not_not.mp zc45 | have ze45 := zc45
                refine hB bX4_stateBehind_48 _ _ _ _ _ _ _ kX4_stateBehind_48 ?_
                dsimp only [bX4_stateBehind_48, kx_wp, kx_step, kx_lI, kx_lL, kx_lA, kx_gl, kx_pI, kx_pL, kx_pR, kx_pA, kx_pV, kx_s1, kx_s2, kx_sl, kx_pre, kx_c2, kx_pl, kx_cmp, kx_oF, kx_eqN, kx_nil, kx_c1, kx_ft, kx_aI, kx_aL, kx_aR, kx_ln, Nat.reduceAdd, Option.toList, List.cons_append, List.nil_append, cf4_4, cf4_2, cf4_1, cf4_3]
                repeat (simp only [p1, p2, p3, p4, p6, p8, pa, nI_1, zb, ks_eq, ks_ss, q1, z1, z2, z3, z4, c1, hs3, y1, y2, y3]; try dsimp only [kx_wp, kx_step, kx_lI, kx_lL, kx_lA, kx_gl, kx_pI, kx_pL, kx_pR, kx_pA, kx_pV, kx_s1, kx_s2, kx_sl, kx_pre, kx_c2, kx_pl, kx_cmp, kx_oF, kx_eqN, kx_nil, kx_c1, kx_ft, kx_aI, kx_aL, kx_aR, kx_ln, Nat.reduceAdd, Option.toList, List.cons_append, List.nil_append, cf4_4, cf4_2, cf4_1, cf4_3])
                repeat' apply And.intro
                all_goals try (first | with_reducible assumption | (with_reducible refine ck_nzI ?_; simp; done) | (with_reducible refine ck_nzL ?_; simp; done) | (with_reducible refine vp_in_nI ?_ ?_ <;> first | omega | decide) | (with_reducible refine Nat.le_of_ble_eq_true ?_; rfl) | omega | exact Or.inl trivial | exact Or.inr trivial | exact Or.inl rfl | exact Or.inr rfl | exact vp_in_nI (by omega) (by decide))
                refine hB bX4_stateBehind_67 _ _ _ _ _ _ _ kX4_stateBehind_67 ?_
                dsimp only [bX4_stateBehind_67, kx_wp, kx_step, kx_lI, kx_lL, kx_lA, kx_gl, kx_pI, kx_pL, kx_pR, kx_pA, kx_pV, kx_s1, kx_s2, kx_sl, kx_pre, kx_c2, kx_pl, kx_cmp, kx_oF, kx_eqN, kx_nil, kx_c1, kx_ft, kx_aI, kx_aL, kx_aR, kx_ln, Nat.reduceAdd, Option.toList, List.cons_append, List.nil_append, cf4_4, cf4_2, cf4_1, cf4_3]
                repeat (simp only [p1, p2, p3, p4, p6, p8, pa, nI_1, zb, ks_eq, ks_ss, q1, z1, z2, z3, z4, c1, hs3, y1, y2, y3]; try dsimp only [kx_wp, kx_step, kx_lI, kx_lL, kx_lA, kx_gl, kx_pI, kx_pL, kx_pR, kx_pA, kx_pV, kx_s1, kx_s2, kx_sl, kx_pre, kx_c2, kx_pl, kx_cmp, kx_oF, kx_eqN, kx_nil, kx_c1, kx_ft, kx_aI, kx_aL, kx_aR, kx_ln, Nat.reduceAdd, Option.toList, List.cons_append, List.nil_append, cf4_4, cf4_2, cf4_1, cf4_3])
                repeat' apply And.intro
                all_goals try (first | with_reducible assumption | (with_reducible refine ck_nzI ?_; simp; done) | (with_reducible refine ck_nzL ?_; simp; done) | (with_reducible refine vp_in_nI ?_ ?_ <;> first | omega | decide) | (with_reducible refine Nat.le_of_ble_eq_true ?_; rfl) | omega | exact Or.inl trivial | exact Or.inr trivial | exact Or.inl rfl | exact Or.inr rfl | exact vp_in_nI (by omega) (by decide))
                · intro zc72
                  with_reducible first | have ze72 := Int32.not_lt.mpr zc72 | have ze72 := zc72
                  refine hB bX4_stateBehind_77 _ _ _ _ _ _ _ kX4_stateBehind_77 ?_
                  dsimp only [bX4_stateBehind_77, kx_wp, kx_step, kx_lI, kx_lL, kx_lA, kx_gl, kx_pI, kx_pL, kx_pR, kx_pA, kx_pV, kx_s1, kx_s2, kx_sl, kx_pre, kx_c2, kx_pl, kx_cmp, kx_oF, kx_eqN, kx_nil, kx_c1, kx_ft, kx_aI, kx_aL, kx_aR, kx_ln, Nat.reduceAdd, Option.toList, List.cons_append, List.nil_append, cf4_4, cf4_2, cf4_1, cf4_3]
                  repeat (simp only [p1, p2, p3, p4, p6, p8, pa, nI_1, zb, ks_eq, ks_ss, q1, z1, z2, z3, z4, c1, hs3, y1, y2, y3]; try dsimp only [kx_wp, kx_step, kx_lI, kx_lL, kx_lA, kx_gl, kx_pI, kx_pL, kx_pR, kx_pA, kx_pV, kx_s1, kx_s2, kx_sl, kx_pre, kx_c2, kx_pl, kx_cmp, kx_oF, kx_eqN, kx_nil, kx_c1, kx_ft, kx_aI, kx_aL, kx_aR, kx_ln, Nat.reduceAdd, Option.toList, List.cons_append, List.nil_append, cf4_4, cf4_2, cf4_1, cf4_3])
                  repeat' apply And.intro
                  all_goals try (first | with_reducible assumption | (with_reducible refine ck_nzI ?_; simp; done) | (with_reducible refine ck_nzL ?_; simp; done) | (with_reducible refine vp_in_nI ?_ ?_ <;> first | omega | decide) | (with_reducible refine Nat.le_of_ble_eq_true ?_; rfl) | omega | exact Or.inl trivial | exact Or.inr trivial | exact Or.inl rfl | exact Or.inr rfl | exact vp_in_nI (by omega) (by decide))
                  refine hC.2.1 56 _ _ _ _ _ _ _ _ _ _ _ _ _ _ _ _ _ lX4_56 (ct_J9_min_7cf53 l G) rfl rfl (Nat.le_of_ble_eq_true rfl) (by first | decide | omega) (by decide) (by omega) (by omega) dX4_stateBehind_91 ?_
                  refine hB bX4_stateBehind_94 _ _ _ _ _ _ _ kX4_stateBehind_94 ?_
                  dsimp only [bX4_stateBehind_94, kx_wp, kx_step, kx_lI, kx_lL, kx_lA, kx_gl, kx_pI, kx_pL, kx_pR, kx_pA, kx_pV, kx_s1, kx_s2, kx_sl, kx_pre, kx_c2, kx_pl, kx_cmp, kx_oF, kx_eqN, kx_nil, kx_c1, kx_ft, kx_aI, kx_aL, kx_aR, kx_ln, Nat.reduceAdd, Option.toList, List.cons_append, List.nil_append, cf4_4, cf4_2, cf4_1, cf4_3]
                  repeat (simp only [p1, p2, p3, p4, p6, p8, pa, nI_1, zb, ks_eq, ks_ss, q1, z1, z2, z3, z4, c1, hs3, y1, y2, y3]; try dsimp only [kx_wp, kx_step, kx_lI, kx_lL, kx_lA, kx_gl, kx_pI, kx_pL, kx_pR, kx_pA, kx_pV, kx_s1, kx_s2, kx_sl, kx_pre, kx_c2, kx_pl, kx_cmp, kx_oF, kx_eqN, kx_nil, kx_c1, kx_ft, kx_aI, kx_aL, kx_aR, kx_ln, Nat.reduceAdd, Option.toList, List.cons_append, List.nil_append, cf4_4, cf4_2, cf4_1, cf4_3])
                  repeat' apply And.intro
                  all_goals try (first | with_reducible assumption | (with_reducible refine ck_nzI ?_; simp; done) | (with_reducible refine ck_nzL ?_; simp; done) | (with_reducible refine vp_in_nI ?_ ?_ <;> first | omega | decide) | (with_reducible refine Nat.le_of_ble_eq_true ?_; rfl) | omega | exact Or.inl trivial | exact Or.inr trivial | exact Or.inl rfl | exact Or.inr rfl | exact vp_in_nI (by omega) (by decide))
                  exact ih (k + 1) _ _ (by omega) hsb
                · intro zc72
                  first | exact absurd rfl zc72 | exact absurd zc72 (by decide) | exact absurd (by decide) zc72 | (exfalso; first | exact absurd ((nI_leI (a := ck_pc wd) (b := many) (by omega) (by omega)).mp zc8) (by omega) | exact absurd ((nI_leI (a := ck_pc wd) (b := many) (by omega) (by omega)).mpr (by omega)) zc8 | exact absurd ((nI_leI (a := n) (b := k) (by omega) (by omega)).mpr (by omega)) zc25 | exact absurd ((nI_leI (a := n) (b := k) (by omega) (by omega)).mp zc25) (by omega) | exact absurd ((nI_leI (a := 4) (b := k) (by omega) (by omega)).mp zc35) (by omega) | exact zc45 hbt | exact hbt (Decidable.not_not.mp zc45) | exact hbt zc45 | exact absurd ((nI_leI (a := 1) (b := sl) (by omega) (by omega)).mpr (by omega)) zc72 | exact absurd ((nI_leI (a := 1) (b := sl) (by omega) (by omega)).mp zc72) (by omega)) | (exfalso; simp_all; done)
      · have h1 : ¬ wd / 2 ^ k % 2 = 1 := fun e => hbt (by rw [e]; rfl)
        have hs3 : nI (cp_d now k) = nI sl := by rw [← hs1]; unfold cp_sl; rw [if_neg h1]
        by_cases h0 : sl = 0
        · refine hB bX4_stateBehind_19 _ _ _ _ _ _ _ kX4_stateBehind_19 ?_
          dsimp only [bX4_stateBehind_19, kx_wp, kx_step, kx_lI, kx_lL, kx_lA, kx_gl, kx_pI, kx_pL, kx_pR, kx_pA, kx_pV, kx_s1, kx_s2, kx_sl, kx_pre, kx_c2, kx_pl, kx_cmp, kx_oF, kx_eqN, kx_nil, kx_c1, kx_ft, kx_aI, kx_aL, kx_aR, kx_ln, Nat.reduceAdd, Option.toList, List.cons_append, List.nil_append, cf4_4, cf4_2, cf4_1, cf4_3]
          repeat (simp only [p1, p2, p3, p4, p6, p8, pa, nI_1, zb, ks_eq, ks_ss, q1, z1, z2, z3, z4, c1, hs3]; try dsimp only [kx_wp, kx_step, kx_lI, kx_lL, kx_lA, kx_gl, kx_pI, kx_pL, kx_pR, kx_pA, kx_pV, kx_s1, kx_s2, kx_sl, kx_pre, kx_c2, kx_pl, kx_cmp, kx_oF, kx_eqN, kx_nil, kx_c1, kx_ft, kx_aI, kx_aL, kx_aR, kx_ln, Nat.reduceAdd, Option.toList, List.cons_append, List.nil_append, cf4_4, cf4_2, cf4_1, cf4_3])
          repeat' apply And.intro
          all_goals try (first | with_reducible assumption | (with_reducible refine ck_nzI ?_; simp; done) | (with_reducible refine ck_nzL ?_; simp; done) | (with_reducible refine vp_in_nI ?_ ?_ <;> first | omega | decide) | (with_reducible refine Nat.le_of_ble_eq_true ?_; rfl) | omega | exact Or.inl trivial | exact Or.inr trivial | exact Or.inl rfl | exact Or.inr rfl | exact vp_in_nI (by omega) (by decide))
          · intro zc25
            first | exact absurd rfl zc25 | exact absurd zc25 (by decide) | exact absurd (by decide) zc25 | (exfalso; first | exact absurd ((nI_leI (a := ck_pc wd) (b := many) (by omega) (by omega)).mp zc8) (by omega) | exact absurd ((nI_leI (a := ck_pc wd) (b := many) (by omega) (by omega)).mpr (by omega)) zc8 | exact absurd ((nI_leI (a := n) (b := k) (by omega) (by omega)).mpr (by omega)) zc25 | exact absurd ((nI_leI (a := n) (b := k) (by omega) (by omega)).mp zc25) (by omega) | exact absurd ((nI_leI (a := 4) (b := k) (by omega) (by omega)).mp zc35) (by omega) | exact zc45 hbt | exact hbt (Decidable.not_not.mp zc45) | exact hbt zc45 | exact absurd ((nI_leI (a := 1) (b := sl) (by omega) (by omega)).mpr (by omega)) zc72 | exact absurd ((nI_leI (a := 1) (b := sl) (by omega) (by omega)).mp zc72) (by omega)) | (exfalso; simp_all; done)
          · intro zc25
            with_reducible first | have ze25 := Int32.not_le.mp zc25 | have ze25 := zc25
            refine hB bX4_stateBehind_28 _ _ _ _ _ _ _ kX4_stateBehind_28 ?_
            dsimp only [bX4_stateBehind_28, kx_wp, kx_step, kx_lI, kx_lL, kx_lA, kx_gl, kx_pI, kx_pL, kx_pR, kx_pA, kx_pV, kx_s1, kx_s2, kx_sl, kx_pre, kx_c2, kx_pl, kx_cmp, kx_oF, kx_eqN, kx_nil, kx_c1, kx_ft, kx_aI, kx_aL, kx_aR, kx_ln, Nat.reduceAdd, Option.toList, List.cons_append, List.nil_append, cf4_4, cf4_2, cf4_1, cf4_3]
            repeat (simp only [p1, p2, p3, p4, p6, p8, pa, nI_1, zb, ks_eq, ks_ss, q1, z1, z2, z3, z4, c1, hs3]; try dsimp only [kx_wp, kx_step, kx_lI, kx_lL, kx_lA, kx_gl, kx_pI, kx_pL, kx_pR, kx_pA, kx_pV, kx_s1, kx_s2, kx_sl, kx_pre, kx_c2, kx_pl, kx_cmp, kx_oF, kx_eqN, kx_nil, kx_c1, kx_ft, kx_aI, kx_aL, kx_aR, kx_ln, Nat.reduceAdd, Option.toList, List.cons_append, List.nil_append, cf4_4, cf4_2, cf4_1, cf4_3])
            repeat' apply And.intro
            all_goals try (first | with_reducible assumption | (with_reducible refine ck_nzI ?_; simp; done) | (with_reducible refine ck_nzL ?_; simp; done) | (with_reducible refine vp_in_nI ?_ ?_ <;> first | omega | decide) | (with_reducible refine Nat.le_of_ble_eq_true ?_; rfl) | omega | exact Or.inl trivial | exact Or.inr trivial | exact Or.inl rfl | exact Or.inr rfl | exact vp_in_nI (by omega) (by decide))
            · intro zc35
              first | exact absurd rfl zc35 | exact absurd zc35 (by decide) | exact absurd (by decide) zc35 | (exfalso; first | exact absurd ((nI_leI (a := ck_pc wd) (b := many) (by omega) (by omega)).mp zc8) (by omega) | exact absurd ((nI_leI (a := ck_pc wd) (b := many) (by omega) (by omega)).mpr (by omega)) zc8 | exact absurd ((nI_leI (a := n) (b := k) (by omega) (by omega)).mpr (by omega)) zc25 | exact absurd ((nI_leI (a := n) (b := k) (by omega) (by omega)).mp zc25) (by omega) | exact absurd ((nI_leI (a := 4) (b := k) (by omega) (by omega)).mp zc35) (by omega) | exact zc45 hbt | exact hbt (Decidable.not_not.mp zc45) | exact hbt zc45 | exact absurd ((nI_leI (a := 1) (b := sl) (by omega) (by omega)).mpr (by omega)) zc72 | exact absurd ((nI_leI (a := 1) (b := sl) (by omega) (by omega)).mp zc72) (by omega)) | (exfalso; simp_all; done)
            · intro zc35
              with_reducible first | have ze35 := Int32.not_le.mp zc35 | have ze35 := zc35
              refine hB bX4_stateBehind_38 _ _ _ _ _ _ _ kX4_stateBehind_38 ?_
              dsimp only [bX4_stateBehind_38, kx_wp, kx_step, kx_lI, kx_lL, kx_lA, kx_gl, kx_pI, kx_pL, kx_pR, kx_pA, kx_pV, kx_s1, kx_s2, kx_sl, kx_pre, kx_c2, kx_pl, kx_cmp, kx_oF, kx_eqN, kx_nil, kx_c1, kx_ft, kx_aI, kx_aL, kx_aR, kx_ln, Nat.reduceAdd, Option.toList, List.cons_append, List.nil_append, cf4_4, cf4_2, cf4_1, cf4_3]
              repeat (simp only [p1, p2, p3, p4, p6, p8, pa, nI_1, zb, ks_eq, ks_ss, q1, z1, z2, z3, z4, c1, hs3]; try dsimp only [kx_wp, kx_step, kx_lI, kx_lL, kx_lA, kx_gl, kx_pI, kx_pL, kx_pR, kx_pA, kx_pV, kx_s1, kx_s2, kx_sl, kx_pre, kx_c2, kx_pl, kx_cmp, kx_oF, kx_eqN, kx_nil, kx_c1, kx_ft, kx_aI, kx_aL, kx_aR, kx_ln, Nat.reduceAdd, Option.toList, List.cons_append, List.nil_append, cf4_4, cf4_2, cf4_1, cf4_3])
              repeat' apply And.intro
              all_goals try (first | with_reducible assumption | (with_reducible refine ck_nzI ?_; simp; done) | (with_reducible refine ck_nzL ?_; simp; done) | (with_reducible refine vp_in_nI ?_ ?_ <;> first | omega | decide) | (with_reducible refine Nat.le_of_ble_eq_true ?_; rfl) | omega | exact Or.inl trivial | exact Or.inr trivial | exact Or.inl rfl | exact Or.inr rfl | exact vp_in_nI (by omega) (by decide))
              · intro zc45
                have ze45 := zc45
                refine hB bX4_stateBehind_58 _ _ _ _ _ _ _ kX4_stateBehind_58 ?_
                dsimp only [bX4_stateBehind_58, kx_wp, kx_step, kx_lI, kx_lL, kx_lA, kx_gl, kx_pI, kx_pL, kx_pR, kx_pA, kx_pV, kx_s1, kx_s2, kx_sl, kx_pre, kx_c2, kx_pl, kx_cmp, kx_oF, kx_eqN, kx_nil, kx_c1, kx_ft, kx_aI, kx_aL, kx_aR, kx_ln, Nat.reduceAdd, Option.toList, List.cons_append, List.nil_append, cf4_4, cf4_2, cf4_1, cf4_3]
                repeat (simp only [p1, p2, p3, p4, p6, p8, pa, nI_1, zb, ks_eq, ks_ss, q1, z1, z2, z3, z4, c1, hs3]; try dsimp only [kx_wp, kx_step, kx_lI, kx_lL, kx_lA, kx_gl, kx_pI, kx_pL, kx_pR, kx_pA, kx_pV, kx_s1, kx_s2, kx_sl, kx_pre, kx_c2, kx_pl, kx_cmp, kx_oF, kx_eqN, kx_nil, kx_c1, kx_ft, kx_aI, kx_aL, kx_aR, kx_ln, Nat.reduceAdd, Option.toList, List.cons_append, List.nil_append, cf4_4, cf4_2, cf4_1, cf4_3])
                repeat' apply And.intro
                all_goals try (first | with_reducible assumption | (with_reducible refine ck_nzI ?_; simp; done) | (with_reducible refine ck_nzL ?_; simp; done) | (with_reducible refine vp_in_nI ?_ ?_ <;> first | omega | decide) | (with_reducible refine Nat.le_of_ble_eq_true ?_; rfl) | omega | exact Or.inl trivial | exact Or.inr trivial | exact Or.inl rfl | exact Or.inr rfl | exact vp_in_nI (by omega) (by decide))
                refine hB bX4_stateBehind_67 _ _ _ _ _ _ _ kX4_stateBehind_67 ?_
                dsimp only [bX4_stateBehind_67, kx_wp, kx_step, kx_lI, kx_lL, kx_lA, kx_gl, kx_pI, kx_pL, kx_pR, kx_pA, kx_pV, kx_s1, kx_s2, kx_sl, kx_pre, kx_c2, kx_pl, kx_cmp, kx_oF, kx_eqN, kx_nil, kx_c1, kx_ft, kx_aI, kx_aL, kx_aR, kx_ln, Nat.reduceAdd, Option.toList, List.cons_append, List.nil_append, cf4_4, cf4_2, cf4_1, cf4_3]
                repeat (simp only [p1, p2, p3, p4, p6, p8, pa, nI_1, zb, ks_eq, ks_ss, q1, z1, z2, z3, z4, c1, hs3]; try dsimp only [kx_wp, kx_step, kx_lI, kx_lL, kx_lA, kx_gl, kx_pI, kx_pL, kx_pR, kx_pA, kx_pV, kx_s1, kx_s2, kx_sl, kx_pre, kx_c2, kx_pl, kx_cmp, kx_oF, kx_eqN, kx_nil, kx_c1, kx_ft, kx_aI, kx_aL, kx_aR, kx_ln, Nat.reduceAdd, Option.toList, List.cons_append, List.nil_append, cf4_4, cf4_2, cf4_1, cf4_3])
                repeat' apply And.intro
                all_goals try (first | with_reducible assumption | (with_reducible refine ck_nzI ?_; simp; done) | (with_reducible refine ck_nzL ?_; simp; done) | (with_reducible refine vp_in_nI ?_ ?_ <;> first | omega | decide) | (with_reducible refine Nat.le_of_ble_eq_true ?_; rfl) | omega | exact Or.inl trivial | exact Or.inr trivial | exact Or.inl rfl | exact Or.inr rfl | exact vp_in_nI (by omega) (by decide))
                · intro zc72
                  first | exact absurd rfl zc72 | exact absurd zc72 (by decide) | exact absurd (by decide) zc72 | (exfalso; first | exact absurd ((nI_leI (a := ck_pc wd) (b := many) (by omega) (by omega)).mp zc8) (by omega) | exact absurd ((nI_leI (a := ck_pc wd) (b := many) (by omega) (by omega)).mpr (by omega)) zc8 | exact absurd ((nI_leI (a := n) (b := k) (by omega) (by omega)).mpr (by omega)) zc25 | exact absurd ((nI_leI (a := n) (b := k) (by omega) (by omega)).mp zc25) (by omega) | exact absurd ((nI_leI (a := 4) (b := k) (by omega) (by omega)).mp zc35) (by omega) | exact zc45 hbt | exact hbt (Decidable.not_not.mp zc45) | exact hbt zc45 | exact absurd ((nI_leI (a := 1) (b := sl) (by omega) (by omega)).mpr (by omega)) zc72 | exact absurd ((nI_leI (a := 1) (b := sl) (by omega) (by omega)).mp zc72) (by omega)) | (exfalso; simp_all; done)
                · intro zc72
                  with_reducible first | have ze72 := Int32.not_le.mp zc72 | have ze72 := zc72
                  refine hB bX4_stateBehind_75 _ _ _ _ _ _ _ kX4_stateBehind_75 ?_
                  dsimp only [bX4_stateBehind_75, kx_wp, kx_step, kx_lI, kx_lL, kx_lA, kx_gl, kx_pI, kx_pL, kx_pR, kx_pA, kx_pV, kx_s1, kx_s2, kx_sl, kx_pre, kx_c2, kx_pl, kx_cmp, kx_oF, kx_eqN, kx_nil, kx_c1, kx_ft, kx_aI, kx_aL, kx_aR, kx_ln, Nat.reduceAdd, Option.toList, List.cons_append, List.nil_append, cf4_4, cf4_2, cf4_1, cf4_3]
                  repeat (simp only [p1, p2, p3, p4, p6, p8, pa, nI_1, zb, ks_eq, ks_ss, q1, z1, z2, z3, z4, c1, hs3]; try dsimp only [kx_wp, kx_step, kx_lI, kx_lL, kx_lA, kx_gl, kx_pI, kx_pL, kx_pR, kx_pA, kx_pV, kx_s1, kx_s2, kx_sl, kx_pre, kx_c2, kx_pl, kx_cmp, kx_oF, kx_eqN, kx_nil, kx_c1, kx_ft, kx_aI, kx_aL, kx_aR, kx_ln, Nat.reduceAdd, Option.toList, List.cons_append, List.nil_append, cf4_4, cf4_2, cf4_1, cf4_3])
                  all_goals (repeat' apply And.intro)
                  all_goals ((try clear hB hC); first | exact True.intro | (rw [cp_sb_none (i := k + 1) (by rw [hsb, if_pos h0]) n (by omega)]; rfl) | trace_state)
              · intro zc45
                first | exact absurd rfl zc45 | exact absurd zc45 (by decide) | exact absurd (by decide) zc45 | (exfalso; first | exact absurd ((nI_leI (a := ck_pc wd) (b := many) (by omega) (by omega)).mp zc8) (by omega) | exact absurd ((nI_leI (a := ck_pc wd) (b := many) (by omega) (by omega)).mpr (by omega)) zc8 | exact absurd ((nI_leI (a := n) (b := k) (by omega) (by omega)).mpr (by omega)) zc25 | exact absurd ((nI_leI (a := n) (b := k) (by omega) (by omega)).mp zc25) (by omega) | exact absurd ((nI_leI (a := 4) (b := k) (by omega) (by omega)).mp zc35) (by omega) | exact zc45 hbt | exact hbt (Decidable.not_not.mp zc45) | exact hbt zc45 | exact absurd ((nI_leI (a := 1) (b := sl) (by omega) (by omega)).mpr (by omega)) zc72 | exact absurd ((nI_leI (a := 1) (b := sl) (by omega) (by omega)).mp zc72) (by omega)) | (exfalso; simp_all; done)
        · rw [if_neg h0] at hsb
          have y1 : nI sl - 1 = nI (sl - 1) := pk_sub (b := 1) (by omega)
          have y2 : cj_min (nI (sl - 1)) (nI (days - tm - 1)) = nI (min (sl - 1) (days - tm - 1)) := cj_min_n (by omega) (by omega)
          have y3 := cp_sh hv (show min (sl - 1) (days - tm - 1) < 16 by omega) (show k < 4 by omega)
          refine hB bX4_stateBehind_19 _ _ _ _ _ _ _ kX4_stateBehind_19 ?_
          dsimp only [bX4_stateBehind_19, kx_wp, kx_step, kx_lI, kx_lL, kx_lA, kx_gl, kx_pI, kx_pL, kx_pR, kx_pA, kx_pV, kx_s1, kx_s2, kx_sl, kx_pre, kx_c2, kx_pl, kx_cmp, kx_oF, kx_eqN, kx_nil, kx_c1, kx_ft, kx_aI, kx_aL, kx_aR, kx_ln, Nat.reduceAdd, Option.toList, List.cons_append, List.nil_append, cf4_4, cf4_2, cf4_1, cf4_3]
          repeat (simp only [p1, p2, p3, p4, p6, p8, pa, nI_1, zb, ks_eq, ks_ss, q1, z1, z2, z3, z4, c1, hs3, y1, y2, y3]; try dsimp only [kx_wp, kx_step, kx_lI, kx_lL, kx_lA, kx_gl, kx_pI, kx_pL, kx_pR, kx_pA, kx_pV, kx_s1, kx_s2, kx_sl, kx_pre, kx_c2, kx_pl, kx_cmp, kx_oF, kx_eqN, kx_nil, kx_c1, kx_ft, kx_aI, kx_aL, kx_aR, kx_ln, Nat.reduceAdd, Option.toList, List.cons_append, List.nil_append, cf4_4, cf4_2, cf4_1, cf4_3])
          repeat' apply And.intro
          all_goals try (first | with_reducible assumption | (with_reducible refine ck_nzI ?_; simp; done) | (with_reducible refine ck_nzL ?_; simp; done) | (with_reducible refine vp_in_nI ?_ ?_ <;> first | omega | decide) | (with_reducible refine Nat.le_of_ble_eq_true ?_; rfl) | omega | exact Or.inl trivial | exact Or.inr trivial | exact Or.inl rfl | exact Or.inr rfl | exact vp_in_nI (by omega) (by decide))
          · intro zc25
            first | exact absurd rfl zc25 | exact absurd zc25 (by decide) | exact absurd (by decide) zc25 | (exfalso; first | exact absurd ((nI_leI (a := ck_pc wd) (b := many) (by omega) (by omega)).mp zc8) (by omega) | exact absurd ((nI_leI (a := ck_pc wd) (b := many) (by omega) (by omega)).mpr (by omega)) zc8 | exact absurd ((nI_leI (a := n) (b := k) (by omega) (by omega)).mpr (by omega)) zc25 | exact absurd ((nI_leI (a := n) (b := k) (by omega) (by omega)).mp zc25) (by omega) | exact absurd ((nI_leI (a := 4) (b := k) (by omega) (by omega)).mp zc35) (by omega) | exact zc45 hbt | exact hbt (Decidable.not_not.mp zc45) | exact hbt zc45 | exact absurd ((nI_leI (a := 1) (b := sl) (by omega) (by omega)).mpr (by omega)) zc72 | exact absurd ((nI_leI (a := 1) (b := sl) (by omega) (by omega)).mp zc72) (by omega)) | (exfalso; simp_all; done)
          · intro zc25
            with_reducible first | have ze25 := Int32.not_le.mp zc25 | have ze25 := zc25
            refine hB bX4_stateBehind_28 _ _ _ _ _ _ _ kX4_stateBehind_28 ?_
            dsimp only [bX4_stateBehind_28, kx_wp, kx_step, kx_lI, kx_lL, kx_lA, kx_gl, kx_pI, kx_pL, kx_pR, kx_pA, kx_pV, kx_s1, kx_s2, kx_sl, kx_pre, kx_c2, kx_pl, kx_cmp, kx_oF, kx_eqN, kx_nil, kx_c1, kx_ft, kx_aI, kx_aL, kx_aR, kx_ln, Nat.reduceAdd, Option.toList, List.cons_append, List.nil_append, cf4_4, cf4_2, cf4_1, cf4_3]
            repeat (simp only [p1, p2, p3, p4, p6, p8, pa, nI_1, zb, ks_eq, ks_ss, q1, z1, z2, z3, z4, c1, hs3, y1, y2, y3]; try dsimp only [kx_wp, kx_step, kx_lI, kx_lL, kx_lA, kx_gl, kx_pI, kx_pL, kx_pR, kx_pA, kx_pV, kx_s1, kx_s2, kx_sl, kx_pre, kx_c2, kx_pl, kx_cmp, kx_oF, kx_eqN, kx_nil, kx_c1, kx_ft, kx_aI, kx_aL, kx_aR, kx_ln, Nat.reduceAdd, Option.toList, List.cons_append, List.nil_append, cf4_4, cf4_2, cf4_1, cf4_3])
            repeat' apply And.intro
            all_goals try (first | with_reducible assumption | (with_reducible refine ck_nzI ?_; simp; done) | (with_reducible refine ck_nzL ?_; simp; done) | (with_reducible refine vp_in_nI ?_ ?_ <;> first | omega | decide) | (with_reducible refine Nat.le_of_ble_eq_true ?_; rfl) | omega | exact Or.inl trivial | exact Or.inr trivial | exact Or.inl rfl | exact Or.inr rfl | exact vp_in_nI (by omega) (by decide))
            · intro zc35
              first | exact absurd rfl zc35 | exact absurd zc35 (by decide) | exact absurd (by decide) zc35 | (exfalso; first | exact absurd ((nI_leI (a := ck_pc wd) (b := many) (by omega) (by omega)).mp zc8) (by omega) | exact absurd ((nI_leI (a := ck_pc wd) (b := many) (by omega) (by omega)).mpr (by omega)) zc8 | exact absurd ((nI_leI (a := n) (b := k) (by omega) (by omega)).mpr (by omega)) zc25 | exact absurd ((nI_leI (a := n) (b := k) (by omega) (by omega)).mp zc25) (by omega) | exact absurd ((nI_leI (a := 4) (b := k) (by omega) (by omega)).mp zc35) (by omega) | exact zc45 hbt | exact hbt (Decidable.not_not.mp zc45) | exact hbt zc45 | exact absurd ((nI_leI (a := 1) (b := sl) (by omega) (by omega)).mpr (by omega)) zc72 | exact absurd ((nI_leI (a := 1) (b := sl) (by omega) (by omega)).mp zc72) (by omega)) | (exfalso; simp_all; done)
            · intro zc35
              with_reducible first | have ze35 := Int32.not_le.mp zc35 | have ze35 := zc35
              refine hB bX4_stateBehind_38 _ _ _ _ _ _ _ kX4_stateBehind_38 ?_
              dsimp only [bX4_stateBehind_38, kx_wp, kx_step, kx_lI, kx_lL, kx_lA, kx_gl, kx_pI, kx_pL, kx_pR, kx_pA, kx_pV, kx_s1, kx_s2, kx_sl, kx_pre, kx_c2, kx_pl, kx_cmp, kx_oF, kx_eqN, kx_nil, kx_c1, kx_ft, kx_aI, kx_aL, kx_aR, kx_ln, Nat.reduceAdd, Option.toList, List.cons_append, List.nil_append, cf4_4, cf4_2, cf4_1, cf4_3]
              repeat (simp only [p1, p2, p3, p4, p6, p8, pa, nI_1, zb, ks_eq, ks_ss, q1, z1, z2, z3, z4, c1, hs3, y1, y2, y3]; try dsimp only [kx_wp, kx_step, kx_lI, kx_lL, kx_lA, kx_gl, kx_pI, kx_pL, kx_pR, kx_pA, kx_pV, kx_s1, kx_s2, kx_sl, kx_pre, kx_c2, kx_pl, kx_cmp, kx_oF, kx_eqN, kx_nil, kx_c1, kx_ft, kx_aI, kx_aL, kx_aR, kx_ln, Nat.reduceAdd, Option.toList, List.cons_append, List.nil_append, cf4_4, cf4_2, cf4_1, cf4_3])
              repeat' apply And.intro
              all_goals try (first | with_reducible assumption | (with_reducible refine ck_nzI ?_; simp; done) | (with_reducible refine ck_nzL ?_; simp; done) | (with_reducible refine vp_in_nI ?_ ?_ <;> first | omega | decide) | (with_reducible refine Nat.le_of_ble_eq_true ?_; rfl) | omega | exact Or.inl trivial | exact Or.inr trivial | exact Or.inl rfl | exact Or.inr rfl | exact vp_in_nI (by omega) (by decide))
              · intro zc45
                have ze45 := zc45
                refine hB bX4_stateBehind_58 _ _ _ _ _ _ _ kX4_stateBehind_58 ?_
                dsimp only [bX4_stateBehind_58, kx_wp, kx_step, kx_lI, kx_lL, kx_lA, kx_gl, kx_pI, kx_pL, kx_pR, kx_pA, kx_pV, kx_s1, kx_s2, kx_sl, kx_pre, kx_c2, kx_pl, kx_cmp, kx_oF, kx_eqN, kx_nil, kx_c1, kx_ft, kx_aI, kx_aL, kx_aR, kx_ln, Nat.reduceAdd, Option.toList, List.cons_append, List.nil_append, cf4_4, cf4_2, cf4_1, cf4_3]
                repeat (simp only [p1, p2, p3, p4, p6, p8, pa, nI_1, zb, ks_eq, ks_ss, q1, z1, z2, z3, z4, c1, hs3, y1, y2, y3]; try dsimp only [kx_wp, kx_step, kx_lI, kx_lL, kx_lA, kx_gl, kx_pI, kx_pL, kx_pR, kx_pA, kx_pV, kx_s1, kx_s2, kx_sl, kx_pre, kx_c2, kx_pl, kx_cmp, kx_oF, kx_eqN, kx_nil, kx_c1, kx_ft, kx_aI, kx_aL, kx_aR, kx_ln, Nat.reduceAdd, Option.toList, List.cons_append, List.nil_append, cf4_4, cf4_2, cf4_1, cf4_3])
                repeat' apply And.intro
                all_goals try (first | with_reducible assumption | (with_reducible refine ck_nzI ?_; simp; done) | (with_reducible refine ck_nzL ?_; simp; done) | (with_reducible refine vp_in_nI ?_ ?_ <;> first | omega | decide) | (with_reducible refine Nat.le_of_ble_eq_true ?_; rfl) | omega | exact Or.inl trivial | exact Or.inr trivial | exact Or.inl rfl | exact Or.inr rfl | exact vp_in_nI (by omega) (by decide))
                refine hB bX4_stateBehind_67 _ _ _ _ _ _ _ kX4_stateBehind_67 ?_
                dsimp only [bX4_stateBehind_67, kx_wp, kx_step, kx_lI, kx_lL, kx_lA, kx_gl, kx_pI, kx_pL, kx_pR, kx_pA, kx_pV, kx_s1, kx_s2, kx_sl, kx_pre, kx_c2, kx_pl, kx_cmp, kx_oF, kx_eqN, kx_nil, kx_c1, kx_ft, kx_aI, kx_aL, kx_aR, kx_ln, Nat.reduceAdd, Option.toList, List.cons_append, List.nil_append, cf4_4, cf4_2, cf4_1, cf4_3]
                repeat (simp only [p1, p2, p3, p4, p6, p8, pa, nI_1, zb, ks_eq, ks_ss, q1, z1, z2, z3, z4, c1, hs3, y1, y2, y3]; try dsimp only [kx_wp, kx_step, kx_lI, kx_lL, kx_lA, kx_gl, kx_pI, kx_pL, kx_pR, kx_pA, kx_pV, kx_s1, kx_s2, kx_sl, kx_pre, kx_c2, kx_pl, kx_cmp, kx_oF, kx_eqN, kx_nil, kx_c1, kx_ft, kx_aI, kx_aL, kx_aR, kx_ln, Nat.reduceAdd, Option.toList, List.cons_append, List.nil_append, cf4_4, cf4_2, cf4_1, cf4_3])
                repeat' apply And.intro
                all_goals try (first | with_reducible assumption | (with_reducible refine ck_nzI ?_; simp; done) | (with_reducible refine ck_nzL ?_; simp; done) | (with_reducible refine vp_in_nI ?_ ?_ <;> first | omega | decide) | (with_reducible refine Nat.le_of_ble_eq_true ?_; rfl) | omega | exact Or.inl trivial | exact Or.inr trivial | exact Or.inl rfl | exact Or.inr rfl | exact vp_in_nI (by omega) (by decide))
                · intro zc72
                  with_reducible first | have ze72 := Int32.not_lt.mpr zc72 | have ze72 := zc72
                  refine hB bX4_stateBehind_77 _ _ _ _ _ _ _ kX4_stateBehind_77 ?_
                  dsimp only [bX4_stateBehind_77, kx_wp, kx_step, kx_lI, kx_lL, kx_lA, kx_gl, kx_pI, kx_pL, kx_pR, kx_pA, kx_pV, kx_s1, kx_s2, kx_sl, kx_pre, kx_c2, kx_pl, kx_cmp, kx_oF, kx_eqN, kx_nil, kx_c1, kx_ft, kx_aI, kx_aL, kx_aR, kx_ln, Nat.reduceAdd, Option.toList, List.cons_append, List.nil_append, cf4_4, cf4_2, cf4_1, cf4_3]
                  repeat (simp only [p1, p2, p3, p4, p6, p8, pa, nI_1, zb, ks_eq, ks_ss, q1, z1, z2, z3, z4, c1, hs3, y1, y2, y3]; try dsimp only [kx_wp, kx_step, kx_lI, kx_lL, kx_lA, kx_gl, kx_pI, kx_pL, kx_pR, kx_pA, kx_pV, kx_s1, kx_s2, kx_sl, kx_pre, kx_c2, kx_pl, kx_cmp, kx_oF, kx_eqN, kx_nil, kx_c1, kx_ft, kx_aI, kx_aL, kx_aR, kx_ln, Nat.reduceAdd, Option.toList, List.cons_append, List.nil_append, cf4_4, cf4_2, cf4_1, cf4_3])
                  repeat' apply And.intro
                  all_goals try (first | with_reducible assumption | (with_reducible refine ck_nzI ?_; simp; done) | (with_reducible refine ck_nzL ?_; simp; done) | (with_reducible refine vp_in_nI ?_ ?_ <;> first | omega | decide) | (with_reducible refine Nat.le_of_ble_eq_true ?_; rfl) | omega | exact Or.inl trivial | exact Or.inr trivial | exact Or.inl rfl | exact Or.inr rfl | exact vp_in_nI (by omega) (by decide))
                  refine hC.2.1 56 _ _ _ _ _ _ _ _ _ _ _ _ _ _ _ _ _ lX4_56 (ct_J9_min_7cf53 l G) rfl rfl (Nat.le_of_ble_eq_true rfl) (by first | decide | omega) (by decide) (by omega) (by omega) dX4_stateBehind_91 ?_
                  refine hB bX4_stateBehind_94 _ _ _ _ _ _ _ kX4_stateBehind_94 ?_
                  dsimp only [bX4_stateBehind_94, kx_wp, kx_step, kx_lI, kx_lL, kx_lA, kx_gl, kx_pI, kx_pL, kx_pR, kx_pA, kx_pV, kx_s1, kx_s2, kx_sl, kx_pre, kx_c2, kx_pl, kx_cmp, kx_oF, kx_eqN, kx_nil, kx_c1, kx_ft, kx_aI, kx_aL, kx_aR, kx_ln, Nat.reduceAdd, Option.toList, List.cons_append, List.nil_append, cf4_4, cf4_2, cf4_1, cf4_3]
                  repeat (simp only [p1, p2, p3, p4, p6, p8, pa, nI_1, zb, ks_eq, ks_ss, q1, z1, z2, z3, z4, c1, hs3, y1, y2, y3]; try dsimp only [kx_wp, kx_step, kx_lI, kx_lL, kx_lA, kx_gl, kx_pI, kx_pL, kx_pR, kx_pA, kx_pV, kx_s1, kx_s2, kx_sl, kx_pre, kx_c2, kx_pl, kx_cmp, kx_oF, kx_eqN, kx_nil, kx_c1, kx_ft, kx_aI, kx_aL, kx_aR, kx_ln, Nat.reduceAdd, Option.toList, List.cons_append, List.nil_append, cf4_4, cf4_2, cf4_1, cf4_3])
                  repeat' apply And.intro
                  all_goals try (first | with_reducible assumption | (with_reducible refine ck_nzI ?_; simp; done) | (with_reducible refine ck_nzL ?_; simp; done) | (with_reducible refine vp_in_nI ?_ ?_ <;> first | omega | decide) | (with_reducible refine Nat.le_of_ble_eq_true ?_; rfl) | omega | exact Or.inl trivial | exact Or.inr trivial | exact Or.inl rfl | exact Or.inr rfl | exact vp_in_nI (by omega) (by decide))
                  exact ih (k + 1) _ _ (by omega) hsb
                · intro zc72
                  first | exact absurd rfl zc72 | exact absurd zc72 (by decide) | exact absurd (by decide) zc72 | (exfalso; first | exact absurd ((nI_leI (a := ck_pc wd) (b := many) (by omega) (by omega)).mp zc8) (by omega) | exact absurd ((nI_leI (a := ck_pc wd) (b := many) (by omega) (by omega)).mpr (by omega)) zc8 | exact absurd ((nI_leI (a := n) (b := k) (by omega) (by omega)).mpr (by omega)) zc25 | exact absurd ((nI_leI (a := n) (b := k) (by omega) (by omega)).mp zc25) (by omega) | exact absurd ((nI_leI (a := 4) (b := k) (by omega) (by omega)).mp zc35) (by omega) | exact zc45 hbt | exact hbt (Decidable.not_not.mp zc45) | exact hbt zc45 | exact absurd ((nI_leI (a := 1) (b := sl) (by omega) (by omega)).mpr (by omega)) zc72 | exact absurd ((nI_leI (a := 1) (b := sl) (by omega) (by omega)).mp zc72) (by omega)) | (exfalso; simp_all; done)
              · intro zc45
                first | exact absurd rfl zc45 | exact absurd zc45 (by decide) | exact absurd (by decide) zc45 | (exfalso; first | exact absurd ((nI_leI (a := ck_pc wd) (b := many) (by omega) (by omega)).mp zc8) (by omega) | exact absurd ((nI_leI (a := ck_pc wd) (b := many) (by omega) (by omega)).mpr (by omega)) zc8 | exact absurd ((nI_leI (a := n) (b := k) (by omega) (by omega)).mpr (by omega)) zc25 | exact absurd ((nI_leI (a := n) (b := k) (by omega) (by omega)).mp zc25) (by omega) | exact absurd ((nI_leI (a := 4) (b := k) (by omega) (by omega)).mp zc35) (by omega) | exact zc45 hbt | exact hbt (Decidable.not_not.mp zc45) | exact hbt zc45 | exact absurd ((nI_leI (a := 1) (b := sl) (by omega) (by omega)).mpr (by omega)) zc72 | exact absurd ((nI_leI (a := 1) (b := sl) (by omega) (by omega)).mp zc72) (by omega)) | (exfalso; simp_all; done)
  refine hB bX4_stateBehind_0 _ _ _ _ _ _ _ kX4_stateBehind_0 ?_
  dsimp only [bX4_stateBehind_0, kx_wp, kx_step, kx_lI, kx_lL, kx_lA, kx_gl, kx_pI, kx_pL, kx_pR, kx_pA, kx_pV, kx_s1, kx_s2, kx_sl, kx_pre, kx_c2, kx_pl, kx_cmp, kx_oF, kx_eqN, kx_nil, kx_c1, kx_ft, kx_aI, kx_aL, kx_aR, kx_ln, Nat.reduceAdd, Option.toList, List.cons_append, List.nil_append, cf4_4, cf4_2, cf4_1, cf4_3]
  repeat (simp only [p1, p2, p3, p4, p6, p8, pa, nI_1, zb, ks_eq, ks_ss]; try dsimp only [kx_wp, kx_step, kx_lI, kx_lL, kx_lA, kx_gl, kx_pI, kx_pL, kx_pR, kx_pA, kx_pV, kx_s1, kx_s2, kx_sl, kx_pre, kx_c2, kx_pl, kx_cmp, kx_oF, kx_eqN, kx_nil, kx_c1, kx_ft, kx_aI, kx_aL, kx_aR, kx_ln, Nat.reduceAdd, Option.toList, List.cons_append, List.nil_append, cf4_4, cf4_2, cf4_1, cf4_3])
  repeat' apply And.intro
  all_goals try (first | with_reducible assumption | (with_reducible refine ck_nzI ?_; simp; done) | (with_reducible refine ck_nzL ?_; simp; done) | (with_reducible refine vp_in_nI ?_ ?_ <;> first | omega | decide) | (with_reducible refine Nat.le_of_ble_eq_true ?_; rfl) | omega | exact Or.inl trivial | exact Or.inr trivial | exact Or.inl rfl | exact Or.inr rfl | exact vp_in_nI (by omega) (by decide))
  refine hC.2.1 80 _ _ _ _ _ _ _ _ _ _ _ _ _ _ _ _ _ lX4_80 (ct_J6_bitCount_0f7a4 l G) rfl rfl (Nat.le_of_ble_eq_true rfl) (by first | decide | omega) (by decide) (by omega) (by omega) dX4_stateBehind_1 ?_
  refine hB bX4_stateBehind_4 _ _ _ _ _ _ _ kX4_stateBehind_4 ?_
  dsimp only [bX4_stateBehind_4, kx_wp, kx_step, kx_lI, kx_lL, kx_lA, kx_gl, kx_pI, kx_pL, kx_pR, kx_pA, kx_pV, kx_s1, kx_s2, kx_sl, kx_pre, kx_c2, kx_pl, kx_cmp, kx_oF, kx_eqN, kx_nil, kx_c1, kx_ft, kx_aI, kx_aL, kx_aR, kx_ln, Nat.reduceAdd, Option.toList, List.cons_append, List.nil_append, cf4_4, cf4_2, cf4_1, cf4_3]
  repeat (simp only [p1, p2, p3, p4, p6, p8, pa, nI_1, zb, ks_eq, ks_ss]; try dsimp only [kx_wp, kx_step, kx_lI, kx_lL, kx_lA, kx_gl, kx_pI, kx_pL, kx_pR, kx_pA, kx_pV, kx_s1, kx_s2, kx_sl, kx_pre, kx_c2, kx_pl, kx_cmp, kx_oF, kx_eqN, kx_nil, kx_c1, kx_ft, kx_aI, kx_aL, kx_aR, kx_ln, Nat.reduceAdd, Option.toList, List.cons_append, List.nil_append, cf4_4, cf4_2, cf4_1, cf4_3])
  repeat' apply And.intro
  all_goals try (first | with_reducible assumption | (with_reducible refine ck_nzI ?_; simp; done) | (with_reducible refine ck_nzL ?_; simp; done) | (with_reducible refine vp_in_nI ?_ ?_ <;> first | omega | decide) | (with_reducible refine Nat.le_of_ble_eq_true ?_; rfl) | omega | exact Or.inl trivial | exact Or.inr trivial | exact Or.inl rfl | exact Or.inr rfl | exact vp_in_nI (by omega) (by decide))
  · intro zc8
    with_reducible first | have ze8 := Int32.not_lt.mpr zc8 | have ze8 := zc8
    refine hB bX4_stateBehind_13 _ _ _ _ _ _ _ kX4_stateBehind_13 ?_
    dsimp only [bX4_stateBehind_13, kx_wp, kx_step, kx_lI, kx_lL, kx_lA, kx_gl, kx_pI, kx_pL, kx_pR, kx_pA, kx_pV, kx_s1, kx_s2, kx_sl, kx_pre, kx_c2, kx_pl, kx_cmp, kx_oF, kx_eqN, kx_nil, kx_c1, kx_ft, kx_aI, kx_aL, kx_aR, kx_ln, Nat.reduceAdd, Option.toList, List.cons_append, List.nil_append, cf4_4, cf4_2, cf4_1, cf4_3]
    repeat (simp only [p1, p2, p3, p4, p6, p8, pa, nI_1, zb, ks_eq, ks_ss]; try dsimp only [kx_wp, kx_step, kx_lI, kx_lL, kx_lA, kx_gl, kx_pI, kx_pL, kx_pR, kx_pA, kx_pV, kx_s1, kx_s2, kx_sl, kx_pre, kx_c2, kx_pl, kx_cmp, kx_oF, kx_eqN, kx_nil, kx_c1, kx_ft, kx_aI, kx_aL, kx_aR, kx_ln, Nat.reduceAdd, Option.toList, List.cons_append, List.nil_append, cf4_4, cf4_2, cf4_1, cf4_3])
    repeat' apply And.intro
    all_goals try (first | with_reducible assumption | (with_reducible refine ck_nzI ?_; simp; done) | (with_reducible refine ck_nzL ?_; simp; done) | (with_reducible refine vp_in_nI ?_ ?_ <;> first | omega | decide) | (with_reducible refine Nat.le_of_ble_eq_true ?_; rfl) | omega | exact Or.inl trivial | exact Or.inr trivial | exact Or.inl rfl | exact Or.inr rfl | exact vp_in_nI (by omega) (by decide))
    exact loop19 n 0 0 none (by omega) rfl
  · intro zc8
    first | exact absurd rfl zc8 | exact absurd zc8 (by decide) | exact absurd (by decide) zc8 | (exfalso; first | exact absurd ((nI_leI (a := ck_pc wd) (b := many) (by omega) (by omega)).mp zc8) (by omega) | exact absurd ((nI_leI (a := ck_pc wd) (b := many) (by omega) (by omega)).mpr (by omega)) zc8 | exact absurd ((nI_leI (a := n) (b := k) (by omega) (by omega)).mpr (by omega)) zc25 | exact absurd ((nI_leI (a := n) (b := k) (by omega) (by omega)).mp zc25) (by omega) | exact absurd ((nI_leI (a := 4) (b := k) (by omega) (by omega)).mp zc35) (by omega) | exact zc45 hbt | exact hbt (Decidable.not_not.mp zc45) | exact hbt zc45 | exact absurd ((nI_leI (a := 1) (b := sl) (by omega) (by omega)).mpr (by omega)) zc72 | exact absurd ((nI_leI (a := 1) (b := sl) (by omega) (by omega)).mp zc72) (by omega)) | (exfalso; simp_all; done)


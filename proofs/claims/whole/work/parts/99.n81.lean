/-- digits, the highest first, to the base b -/
def cp_hn (b now n : Nat) : Nat → Nat
  | 0 => 0
  | k + 1 => cp_hn b now n k * b + cp_d now (n - 1 - k)
def cp_ok (n r now : Nat) : Prop := now < 16 ^ n ∧ ∀ i, i < n → cp_d now i ≤ r
def cp_ix (n r now : Nat) : Nat := cp_hn (r + 1) now n n + cp_nf r
theorem cp_hn_lt {n r now : Nat} (h : cp_ok n r now) : ∀ k, k ≤ n → cp_hn (r + 1) now n k < (r + 1) ^ k := by
  intro k
  induction k with
  | zero => intro _; exact Nat.one_pos
  | succ k ih =>
    intro hk
    have h1 := ih (by omega)
    have h2 := h.2 (n - 1 - k) (by omega)
    rw [cp_hn, Nat.pow_succ]
    have h3 := Nat.mul_le_mul_right (r + 1) (show cp_hn (r + 1) now n k + 1 ≤ (r + 1) ^ k from h1)
    rw [Nat.add_mul] at h3
    omega
theorem cp_pw : ∀ r, r ≤ 10 → ∀ n, n ≤ 4 → (r + 1) ^ n ≤ (r + 1) ^ 4 := fun r _ n hn => Nat.pow_le_pow_right (by omega) hn
theorem cp_nf_s : ∀ r, r ≤ 10 → 1 ≤ r → cp_nf r + (r + 1) ^ 4 ≤ 39973 ∧ ∀ q, q ≤ 10 → r < q → cp_nf r + (r + 1) ^ 4 ≤ cp_nf q := by decide +kernel
theorem cp_ix_lt {n r now : Nat} (h : cp_ok n r now) (hn : n ≤ 4) (h1 : 1 ≤ r) (hr : r ≤ 10) : cp_ix n r now < 39973 ∧ cp_nf r ≤ cp_ix n r now ∧ cp_ix n r now < cp_nf r + (r + 1) ^ 4 := by
  have a := cp_hn_lt h n (Nat.le_refl _)
  have b := cp_pw r hr n hn
  have c := (cp_nf_s r hr h1).1
  unfold cp_ix
  omega
theorem cp_hn_inj {n r a b : Nat} (ha : cp_ok n r a) (hb : cp_ok n r b) : ∀ k, k ≤ n → cp_hn (r + 1) a n k = cp_hn (r + 1) b n k → ∀ j, j < k → cp_d a (n - 1 - j) = cp_d b (n - 1 - j) := by
  intro k
  induction k with
  | zero => intro _ _ j hj; exact absurd hj (Nat.not_lt_zero _)
  | succ k ih =>
    intro hk h j hj
    have h2 := ha.2 (n - 1 - k) (by omega)
    have h3 := hb.2 (n - 1 - k) (by omega)
    rw [cp_hn, cp_hn] at h
    have q : ∀ x y u v m : Nat, u < m → v < m → x * m + u = y * m + v → u = v ∧ x = y := by
      intro x y u v m hu hv e
      have e1 : (x * m + u) % m = u := by rw [Nat.add_comm, Nat.add_mul_mod_self_right, Nat.mod_eq_of_lt hu]
      have e2 : (y * m + v) % m = v := by rw [Nat.add_comm, Nat.add_mul_mod_self_right, Nat.mod_eq_of_lt hv]
      have e3 : u = v := by rw [← e1, ← e2, e]
      subst e3
      exact ⟨rfl, Nat.eq_of_mul_eq_mul_right (by omega) (Nat.add_right_cancel e)⟩
    obtain ⟨q1, q2⟩ := q _ _ _ _ _ (by omega) (by omega) h
    by_cases e : j = k
    · rw [e]; exact q1
    · exact ih (by omega) q2 j (by omega)
theorem cp_inj {n a b : Nat} (hn : n ≤ 4) (ha : a < 16 ^ n) (hb : b < 16 ^ n) (h : ∀ i, i < n → cp_d a i = cp_d b i) : a = b := by
  unfold cp_d at h
  rcases (show n = 0 ∨ n = 1 ∨ n = 2 ∨ n = 3 ∨ n = 4 by omega) with rfl | rfl | rfl | rfl | rfl
  · omega
  · have := h 0 (by omega); omega
  · have := h 0 (by omega); have := h 1 (by omega); omega
  · have := h 0 (by omega); have := h 1 (by omega); have := h 2 (by omega); omega
  · have := h 0 (by omega); have := h 1 (by omega); have := h 2 (by omega); have := h 3 (by omega); omega
theorem cp_ix_inj {n r q a b : Nat} (hn : n ≤ 4) (hr : 1 ≤ r ∧ r ≤ 10) (hq : 1 ≤ q ∧ q ≤ 10) (ha : cp_ok n r a) (hb : cp_ok n q b) (h : cp_ix n r a = cp_ix n q b) : r = q ∧ a = b := by
  have h1 := cp_ix_lt ha hn hr.1 hr.2
  have h2 := cp_ix_lt hb hn hq.1 hq.2
  have h3 := cp_nf_s r hr.2 hr.1
  have h4 := cp_nf_s q hq.2 hq.1
  have e : r = q := by
    rcases Nat.lt_trichotomy r q with c | c | c
    · have := h3.2 q hq.2 c; omega
    · exact c
    · have := h4.2 r hr.2 c; omega
  subst e
  refine ⟨rfl, cp_inj hn ha.1 hb.1 fun i hi => ?_⟩
  have := cp_hn_inj ha hb n (Nat.le_refl _) (by unfold cp_ix at h; omega) (n - 1 - i) (by omega)
  rwa [show n - 1 - (n - 1 - i) = i by omega] at this
/-- the fewest windings for so many times more -/
def cp_fm (nx : Nat → Option Nat) (f : Nat → Nat) : Nat → Nat
  | 0 => 63
  | w + 1 => match nx w with
    | none => cp_fm nx f w
    | some s => min (cp_fm nx f w) (ck_pc w + f s)
def cp_fw (ws : Nat → Nat) (n many : Nat) : Nat → Nat → Nat
  | 0, _ => 0
  | r + 1, now => cp_fm (fun w => cp_nx ws n many r now w) (cp_fw ws n many r) (2 ^ n)
theorem cp_fm_le (nx : Nat → Option Nat) (f : Nat → Nat) : ∀ w, cp_fm nx f w ≤ 63 := by
  intro w
  induction w with
  | zero => exact Nat.le_refl _
  | succ w ih =>
    rw [cp_fm]
    split
    · exact ih
    · exact Nat.le_trans (Nat.min_le_left _ _) ih
theorem cp_fw_le (ws : Nat → Nat) (n many r now : Nat) : cp_fw ws n many r now ≤ 63 := by
  cases r with
  | zero => exact Nat.zero_le _
  | succ r => exact cp_fm_le _ _ _
theorem cp_d_add {v m i : Nat} (hv : v < 16 ^ i) (hm : m < 16) : (∀ j, j < i → cp_d (v + m * 16 ^ i) j = cp_d v j) ∧ cp_d (v + m * 16 ^ i) i = m := by
  unfold cp_d
  refine ⟨fun j hj => ?_, ?_⟩
  · have e : 16 ^ i = 16 ^ j * (16 * 16 ^ (i - j - 1)) := by
      rw [← Nat.pow_succ', ← Nat.pow_add]; congr 1; omega
    rw [e, show v + m * (16 ^ j * (16 * 16 ^ (i - j - 1))) = v + 16 ^ j * (16 * (m * 16 ^ (i - j - 1))) by
      rw [Nat.mul_left_comm m, Nat.mul_left_comm m], Nat.add_mul_div_left _ _ (Nat.pow_pos (by decide)), Nat.add_mul_mod_self_left]
  · rw [Nat.add_mul_div_right _ _ (Nat.pow_pos (by decide)), Nat.div_eq_of_lt hv, Nat.zero_add, Nat.mod_eq_of_lt hm]
theorem cp_sb_ok {ws : Nat → Nat} {r now wound : Nat} (hr : r ≤ 10) : ∀ i v, cp_sb ws r now wound i = some v → cp_ok i r v := by
  intro i
  induction i with
  | zero => intro v h; cases h; exact ⟨by decide, fun j hj => absurd hj (Nat.not_lt_zero _)⟩
  | succ i ih =>
    intro v h
    refine ⟨cp_sb_lt hr _ _ h, fun j hj => ?_⟩
    rw [cp_sb] at h
    split at h
    · cases h
    · rename_i v2 h2
      split at h
      · cases h
      · cases h
        obtain ⟨q1, q2⟩ := cp_d_add (v := v2) (m := min (cp_sl ws now wound i - 1) r) (i := i) (ih _ h2).1 (by omega)
        by_cases e : j = i
        · rw [e, q2]; exact Nat.min_le_right _ _
        · rw [q1 j (by omega)]; exact (ih _ h2).2 j (by omega)
theorem cp_nx_ok {ws : Nat → Nat} {n many r now wound v : Nat} (hr : r ≤ 10) (h : cp_nx ws n many r now wound = some v) : cp_ok n r v := by
  unfold cp_nx at h
  split at h
  · cases h
  · exact cp_sb_ok hr _ _ h
theorem cp_ok_lt {n r now : Nat} (hn : n ≤ 4) (h : cp_ok n r now) : now < 65536 := Nat.lt_of_lt_of_le h.1 (Nat.pow_le_pow_right (n := 16) (by decide) hn : 16 ^ n ≤ 16 ^ 4)
/-- the notes: none is newer than this plan; those of this plan are right -/
def cp_nv (ws : Nat → Nat) (n many days se : Nat) (N : Nat → Int32) : Prop :=
  (∀ i, i < 39973 → ∃ e : Nat, N i = nI e ∧ e < 64 * (se + 1)) ∧
  ∀ r now, 1 ≤ r → r ≤ days → cp_ok n r now → N (cp_ix n r now) >>> (6 &&& 31) = nI se → N (cp_ix n r now) = nI (se * 64 + cp_fw ws n many r now)
theorem cp_nv.put {ws : Nat → Nat} {n many days se : Nat} {N : Nat → Int32} (h : cp_nv ws n many days se N) (hn : n ≤ 4) (hd : days ≤ 10) {r now : Nat} (hr : 1 ≤ r ∧ r ≤ days) (ho : cp_ok n r now) : cp_nv ws n many days se (upd N (cp_ix n r now) (nI (se * 64 + cp_fw ws n many r now))) := by
  refine ⟨fun i hi => ?_, fun q b h1 h2 h3 h4 => ?_⟩
  · unfold upd
    split
    · exact ⟨_, rfl, by have := cp_fw_le ws n many r now; omega⟩
    · exact h.1 i hi
  · unfold upd at h4 ⊢
    split
    · rename_i e
      obtain ⟨rfl, rfl⟩ := cp_ix_inj hn ⟨h1, by omega⟩ ⟨hr.1, by omega⟩ h3 ho e
      rfl
    · rename_i e
      rw [if_neg e] at h4
      exact h.2 q b h1 h2 h3 h4
theorem cp_H.set {P : kx_P} {nt : Nat} {F WS N N2 : Nat → Int32} {ws : Nat → Nat} {n days many : Nat} (hp : cp_H P nt F WS N ws n days many) : cp_H (kx_set P nt (kI 0 39973 N2)) nt F WS N2 ws n days many := by
  obtain ⟨p1, p2, p3, p4, p5, p6, p7, p8, p9, pa, pb, pc⟩ := hp
  exact ⟨by rw [ks_ne (by omega)]; exact p1, by rw [ks_ne (by omega)]; exact p2, by rw [ks_ne (by omega)]; exact p3, ks_eq _ _ _, p5, p6, p7, p8, p9, pa, pb, pc⟩
theorem cp_H.F2 {P : kx_P} {nt : Nat} {F WS N : Nat → Int32} {ws : Nat → Nat} {n days many : Nat} (hp : cp_H P nt F WS N ws n days many) : F 2 = nI n := hp.2.2.2.2.2.1
theorem cp_H.n4 {P : kx_P} {nt : Nat} {F WS N : Nat → Int32} {ws : Nat → Nat} {n days many : Nat} (hp : cp_H P nt F WS N ws n days many) : n ≤ 4 := hp.2.2.2.2.2.2.1
theorem cp_H.d10 {P : kx_P} {nt : Nat} {F WS N : Nat → Int32} {ws : Nat → Nat} {n days many : Nat} (hp : cp_H P nt F WS N ws n days many) : days ≤ 10 := hp.2.2.2.2.2.2.2.2.1
theorem cp_1n : ∀ n, n ≤ 4 → (1 : Int32) <<< (nI n &&& 31) = nI (2 ^ n) := by decide +kernel
theorem cp_2n : ∀ n, n ≤ 4 → 2 ^ n ≤ 16 := by decide
def bX4_noteOf_0 : List kx_O := [(.aload_n 0, 0, 0, 0, .null), (.getfield 22, 4, 3, 0, .null), (.iload_n 1, 1, 0, 0, .null), (.isub, 0, 0, 0, .null), (.istore_n 3, 3, 0, 0, .null), (.iload_n 3, 3, 0, 0, .null), (.ifCond .lt 11, 19, 0, 0, .null)]
theorem kX4_noteOf_0 : kx_oks kxL_X4 false cX4_noteOf 0 bX4_noteOf_0 = true := by decide +kernel
def bX4_noteOf_11 : List kx_O := [(.iload_n 3, 3, 0, 0, .null), (.getstatic 91, 0, 0, 0, .ref 2), (.arraylength, 0, 0, 0, .null), (.if_icmp .lt 5, 21, 0, 0, .null)]
theorem kX4_noteOf_11 : kx_oks kxL_X4 false cX4_noteOf 11 bX4_noteOf_11 = true := by decide +kernel
def bX4_noteOf_19 : List kx_O := [(.iconst 0, 0, 0, 0, .int 0), (.ireturn, 0, 0, 0, .null)]
theorem kX4_noteOf_19 : kx_oks kxL_X4 false cX4_noteOf 19 bX4_noteOf_19 = true := by decide +kernel
def bX4_noteOf_21 : List kx_O := [(.iconst 0, 0, 0, 0, .int 0), (.istore 4, 4, 0, 0, .null), (.aload_n 0, 0, 0, 0, .null), (.getfield 18, 4, 2, 0, .null), (.iconst 1, 0, 0, 0, .int 1), (.isub, 0, 0, 0, .null), (.istore 5, 5, 0, 0, .null)]
theorem kX4_noteOf_21 : kx_oks kxL_X4 false cX4_noteOf 21 bX4_noteOf_21 = true := by decide +kernel
def bX4_noteOf_32 : List kx_O := [(.iload 5, 5, 0, 0, .null), (.ifCond .lt 27, 61, 0, 0, .null)]
theorem kX4_noteOf_32 : kx_oks kxL_X4 false cX4_noteOf 32 bX4_noteOf_32 = true := by decide +kernel
def bX4_noteOf_37 : List kx_O := [(.iload 4, 4, 0, 0, .null), (.iload_n 3, 3, 0, 0, .null), (.iconst 1, 0, 0, 0, .int 1), (.iadd, 0, 0, 0, .null), (.imul, 0, 0, 0, .null), (.iload_n 2, 2, 0, 0, .null), (.iconst 4, 0, 0, 0, .int 4), (.iload 5, 5, 0, 0, .null), (.imul, 0, 0, 0, .null), (.ishr, 0, 0, 0, .null), (.bipush 15, 0, 0, 0, .int 15), (.iand, 0, 0, 0, .null), (.iadd, 0, 0, 0, .null), (.istore 4, 4, 0, 0, .null), (.iinc 5 (-1), 5, 0, 0, .int (-1)), (.goto (-26), 32, 0, 0, .null)]
theorem kX4_noteOf_37 : kx_oks kxL_X4 false cX4_noteOf 37 bX4_noteOf_37 = true := by decide +kernel
def bX4_noteOf_61 : List kx_O := [(.iload 4, 4, 0, 0, .null), (.getstatic 91, 0, 0, 0, .ref 2), (.iload_n 3, 3, 0, 0, .null), (.iaload, 0, 0, 0, .null), (.iadd, 0, 0, 0, .null), (.istore 4, 4, 0, 0, .null), (.iload 4, 4, 0, 0, .null), (.ifCond .lt 18, 91, 0, 0, .null)]
theorem kX4_noteOf_61 : kx_oks kxL_X4 false cX4_noteOf 61 bX4_noteOf_61 = true := by decide +kernel
def bX4_noteOf_76 : List kx_O := [(.iload 4, 4, 0, 0, .null), (.aload_n 0, 0, 0, 0, .null), (.getfield 31, 4, 6, 0, .null), (.arraylength, 0, 0, 0, .null), (.if_icmp .ge 8, 91, 0, 0, .null)]
theorem kX4_noteOf_76 : kx_oks kxL_X4 false cX4_noteOf 76 bX4_noteOf_76 = true := by decide +kernel
def bX4_noteOf_86 : List kx_O := [(.iload 4, 4, 0, 0, .null), (.goto 4, 92, 0, 0, .null)]
theorem kX4_noteOf_86 : kx_oks kxL_X4 false cX4_noteOf 86 bX4_noteOf_86 = true := by decide +kernel
def bX4_noteOf_91 : List kx_O := [(.iconst 0, 0, 0, 0, .int 0)]
theorem kX4_noteOf_91 : kx_oks kxL_X4 false cX4_noteOf 91 bX4_noteOf_91 = true := by decide +kernel
def bX4_noteOf_92 : List kx_O := [(.ireturn, 0, 0, 0, .null)]
theorem kX4_noteOf_92 : kx_oks kxL_X4 false cX4_noteOf 92 bX4_noteOf_92 = true := by decide +kernel
set_option maxRecDepth 100000 in
set_option maxHeartbeats 4000000 in
theorem ct_X4_noteOf (l : Launch) (G : kx_G) {P : kx_P} {sz : Nat} {nt : Nat} {F WS N : Nat → Int32} {ws : Nat → Nat} {n days many : Nat} (hp : cp_H P nt F WS N ws n days many) {tm now : Nat} (htm : tm < days) (ho : cp_ok n (days - tm) now)  : kx_M l G sX4_noteOf 1 0 0 [.ref 81, .int (nI tm), .int (nI now)] P sz (some (.int (nI (cp_ix n (days - tm) now)))) P sz := by
  have hp0 := hp
  obtain ⟨p1, p2, p3, p4, p5, p6, p7, p8, p9, pa, pb, pc⟩ := hp
  have z1 : nI days - nI tm = nI (days - tm) := pk_sub (by omega)
  have z2 : nI n - 1 = if n = 0 then -1 else nI (n - 1) := by
    split
    · rename_i e; rw [e]; rfl
    · exact pk_sub (b := 1) (by omega)
  have z3 : cj_nf (days - tm) = nI (cp_nf (days - tm)) := rfl
  have z4 := cp_ix_lt ho p7 (show 1 ≤ days - tm by omega) (by omega)
  have z5 : nI (cp_hn (days - tm + 1) now n n) + nI (cp_nf (days - tm)) = nI (cp_ix n (days - tm) now) := nI_add _ _
  refine kx_mk kx_tab kxLok_X4 (ini := false) [some (.ref 81), some (.int (nI tm)), some (.int (nI now)), none, none, none] ⟨by decide, rfl, by decide, by decide⟩ (⟨_, rfl⟩) rfl rfl (fun g hB hC => ?_)
  have loop32 : ∀ (n9 k : Nat), k + n9 = n → g 32 [some (.ref 81), some (.int (nI tm)), some (.int (nI now)), some (.int (nI (days - tm))), some (.int (nI (cp_hn (days - tm + 1) now n (k)))), some (.int (if k = n then -1 else nI (n - 1 - (k))))] [] P sz 0 0 := by
    intro n9
    induction n9 with
    | zero =>
      intro k hk
      obtain rfl : k = n := by omega
      rw [if_pos rfl]
      refine hB bX4_noteOf_32 _ _ _ _ _ _ _ kX4_noteOf_32 ?_
      dsimp only [bX4_noteOf_32, kx_wp, kx_step, kx_lI, kx_lL, kx_lA, kx_gl, kx_pI, kx_pL, kx_pR, kx_pA, kx_pV, kx_s1, kx_s2, kx_sl, kx_pre, kx_c2, kx_pl, kx_cmp, kx_oF, kx_eqN, kx_nil, kx_c1, kx_ft, kx_aI, kx_aL, kx_aR, kx_ln, Nat.reduceAdd, Option.toList, List.cons_append, List.nil_append, cf4_3, cf4_2, cf4_6]
      repeat (simp only [p1, p2, p3, p4, p6, p8, pa, nI_1, z1, z3, nI_clamp (show days - tm < 2 ^ 31 by omega), ks_eq, ks_ss, z5]; try dsimp only [kx_wp, kx_step, kx_lI, kx_lL, kx_lA, kx_gl, kx_pI, kx_pL, kx_pR, kx_pA, kx_pV, kx_s1, kx_s2, kx_sl, kx_pre, kx_c2, kx_pl, kx_cmp, kx_oF, kx_eqN, kx_nil, kx_c1, kx_ft, kx_aI, kx_aL, kx_aR, kx_ln, Nat.reduceAdd, Option.toList, List.cons_append, List.nil_append, cf4_3, cf4_2, cf4_6])
      repeat' apply And.intro
      all_goals try (first | with_reducible assumption | (with_reducible refine ck_nzI ?_; simp; done) | (with_reducible refine ck_nzL ?_; simp; done) | (with_reducible refine vp_in_nI ?_ ?_ <;> first | omega | decide) | (with_reducible refine Nat.le_of_ble_eq_true ?_; rfl) | omega | exact Or.inl trivial | exact Or.inr trivial | exact Or.inl rfl | exact Or.inr rfl | exact vp_in_nI (by omega) (by decide))
      · intro zc34
        with_reducible first | have ze34 := Int32.not_le.mpr zc34 | have ze34 := zc34
        refine hB bX4_noteOf_61 _ _ _ _ _ _ _ kX4_noteOf_61 ?_
        dsimp only [bX4_noteOf_61, kx_wp, kx_step, kx_lI, kx_lL, kx_lA, kx_gl, kx_pI, kx_pL, kx_pR, kx_pA, kx_pV, kx_s1, kx_s2, kx_sl, kx_pre, kx_c2, kx_pl, kx_cmp, kx_oF, kx_eqN, kx_nil, kx_c1, kx_ft, kx_aI, kx_aL, kx_aR, kx_ln, Nat.reduceAdd, Option.toList, List.cons_append, List.nil_append, cf4_3, cf4_2, cf4_6]
        repeat (simp only [p1, p2, p3, p4, p6, p8, pa, nI_1, z1, z3, nI_clamp (show days - tm < 2 ^ 31 by omega), ks_eq, ks_ss, z5]; try dsimp only [kx_wp, kx_step, kx_lI, kx_lL, kx_lA, kx_gl, kx_pI, kx_pL, kx_pR, kx_pA, kx_pV, kx_s1, kx_s2, kx_sl, kx_pre, kx_c2, kx_pl, kx_cmp, kx_oF, kx_eqN, kx_nil, kx_c1, kx_ft, kx_aI, kx_aL, kx_aR, kx_ln, Nat.reduceAdd, Option.toList, List.cons_append, List.nil_append, cf4_3, cf4_2, cf4_6])
        repeat' apply And.intro
        all_goals try (first | with_reducible assumption | (with_reducible refine ck_nzI ?_; simp; done) | (with_reducible refine ck_nzL ?_; simp; done) | (with_reducible refine vp_in_nI ?_ ?_ <;> first | omega | decide) | (with_reducible refine Nat.le_of_ble_eq_true ?_; rfl) | omega | exact Or.inl trivial | exact Or.inr trivial | exact Or.inl rfl | exact Or.inr rfl | exact vp_in_nI (by omega) (by decide))
        · intro zc73
          first | exact absurd rfl zc73 | exact absurd zc73 (by decide) | exact absurd (by decide) zc73 | (exfalso; first | exact absurd ((nI_ltI (a := days - tm) (b := 0) (by omega) (by omega)).mp zc8) (by omega) | exact absurd ((nI_ltI (a := days - tm) (b := 11) (by omega) (by omega)).mpr (by omega)) zc16 | exact zc34 (by decide) | exact absurd ((nI_ltI (a := n - 1 - k) (b := 0) (by omega) (by omega)).mp zc34) (by omega) | exact absurd ((nI_ltI (a := cp_ix n (days - tm) now) (b := 0) (by omega) (by omega)).mp zc73) (by omega) | exact absurd ((nI_leI (a := 39973) (b := cp_ix n (days - tm) now) (by omega) (by omega)).mp zc83) (by omega) | exact absurd ((nI_ltI (a := cp_ix k (days - tm) now) (b := 0) (by omega) (by omega)).mp zc73) (by omega) | exact absurd ((nI_leI (a := 39973) (b := cp_ix k (days - tm) now) (by omega) (by omega)).mp zc83) (by omega)) | (exfalso; simp_all; done)
        · intro zc73
          with_reducible first | have ze73 := Int32.not_lt.mp zc73 | have ze73 := zc73
          refine hB bX4_noteOf_76 _ _ _ _ _ _ _ kX4_noteOf_76 ?_
          dsimp only [bX4_noteOf_76, kx_wp, kx_step, kx_lI, kx_lL, kx_lA, kx_gl, kx_pI, kx_pL, kx_pR, kx_pA, kx_pV, kx_s1, kx_s2, kx_sl, kx_pre, kx_c2, kx_pl, kx_cmp, kx_oF, kx_eqN, kx_nil, kx_c1, kx_ft, kx_aI, kx_aL, kx_aR, kx_ln, Nat.reduceAdd, Option.toList, List.cons_append, List.nil_append, cf4_3, cf4_2, cf4_6]
          repeat (simp only [p1, p2, p3, p4, p6, p8, pa, nI_1, z1, z3, nI_clamp (show days - tm < 2 ^ 31 by omega), ks_eq, ks_ss, z5]; try dsimp only [kx_wp, kx_step, kx_lI, kx_lL, kx_lA, kx_gl, kx_pI, kx_pL, kx_pR, kx_pA, kx_pV, kx_s1, kx_s2, kx_sl, kx_pre, kx_c2, kx_pl, kx_cmp, kx_oF, kx_eqN, kx_nil, kx_c1, kx_ft, kx_aI, kx_aL, kx_aR, kx_ln, Nat.reduceAdd, Option.toList, List.cons_append, List.nil_append, cf4_3, cf4_2, cf4_6])
          repeat' apply And.intro
          all_goals try (first | with_reducible assumption | (with_reducible refine ck_nzI ?_; simp; done) | (with_reducible refine ck_nzL ?_; simp; done) | (with_reducible refine vp_in_nI ?_ ?_ <;> first | omega | decide) | (with_reducible refine Nat.le_of_ble_eq_true ?_; rfl) | omega | exact Or.inl trivial | exact Or.inr trivial | exact Or.inl rfl | exact Or.inr rfl | exact vp_in_nI (by omega) (by decide))
          · intro zc83
            first | exact absurd rfl zc83 | exact absurd zc83 (by decide) | exact absurd (by decide) zc83 | (exfalso; first | exact absurd ((nI_ltI (a := days - tm) (b := 0) (by omega) (by omega)).mp zc8) (by omega) | exact absurd ((nI_ltI (a := days - tm) (b := 11) (by omega) (by omega)).mpr (by omega)) zc16 | exact zc34 (by decide) | exact absurd ((nI_ltI (a := n - 1 - k) (b := 0) (by omega) (by omega)).mp zc34) (by omega) | exact absurd ((nI_ltI (a := cp_ix n (days - tm) now) (b := 0) (by omega) (by omega)).mp zc73) (by omega) | exact absurd ((nI_leI (a := 39973) (b := cp_ix n (days - tm) now) (by omega) (by omega)).mp zc83) (by omega) | exact absurd ((nI_ltI (a := cp_ix k (days - tm) now) (b := 0) (by omega) (by omega)).mp zc73) (by omega) | exact absurd ((nI_leI (a := 39973) (b := cp_ix k (days - tm) now) (by omega) (by omega)).mp zc83) (by omega)) | (exfalso; simp_all; done)
          · intro zc83
            with_reducible first | have ze83 := Int32.not_le.mp zc83 | have ze83 := zc83
            refine hB bX4_noteOf_86 _ _ _ _ _ _ _ kX4_noteOf_86 ?_
            dsimp only [bX4_noteOf_86, kx_wp, kx_step, kx_lI, kx_lL, kx_lA, kx_gl, kx_pI, kx_pL, kx_pR, kx_pA, kx_pV, kx_s1, kx_s2, kx_sl, kx_pre, kx_c2, kx_pl, kx_cmp, kx_oF, kx_eqN, kx_nil, kx_c1, kx_ft, kx_aI, kx_aL, kx_aR, kx_ln, Nat.reduceAdd, Option.toList, List.cons_append, List.nil_append, cf4_3, cf4_2, cf4_6]
            repeat (simp only [p1, p2, p3, p4, p6, p8, pa, nI_1, z1, z3, nI_clamp (show days - tm < 2 ^ 31 by omega), ks_eq, ks_ss, z5]; try dsimp only [kx_wp, kx_step, kx_lI, kx_lL, kx_lA, kx_gl, kx_pI, kx_pL, kx_pR, kx_pA, kx_pV, kx_s1, kx_s2, kx_sl, kx_pre, kx_c2, kx_pl, kx_cmp, kx_oF, kx_eqN, kx_nil, kx_c1, kx_ft, kx_aI, kx_aL, kx_aR, kx_ln, Nat.reduceAdd, Option.toList, List.cons_append, List.nil_append, cf4_3, cf4_2, cf4_6])
            repeat' apply And.intro
            all_goals try (first | with_reducible assumption | (with_reducible refine ck_nzI ?_; simp; done) | (with_reducible refine ck_nzL ?_; simp; done) | (with_reducible refine vp_in_nI ?_ ?_ <;> first | omega | decide) | (with_reducible refine Nat.le_of_ble_eq_true ?_; rfl) | omega | exact Or.inl trivial | exact Or.inr trivial | exact Or.inl rfl | exact Or.inr rfl | exact vp_in_nI (by omega) (by decide))
            refine hB bX4_noteOf_92 _ _ _ _ _ _ _ kX4_noteOf_92 ?_
            dsimp only [bX4_noteOf_92, kx_wp, kx_step, kx_lI, kx_lL, kx_lA, kx_gl, kx_pI, kx_pL, kx_pR, kx_pA, kx_pV, kx_s1, kx_s2, kx_sl, kx_pre, kx_c2, kx_pl, kx_cmp, kx_oF, kx_eqN, kx_nil, kx_c1, kx_ft, kx_aI, kx_aL, kx_aR, kx_ln, Nat.reduceAdd, Option.toList, List.cons_append, List.nil_append, cf4_3, cf4_2, cf4_6]
            repeat (simp only [p1, p2, p3, p4, p6, p8, pa, nI_1, z1, z3, nI_clamp (show days - tm < 2 ^ 31 by omega), ks_eq, ks_ss, z5]; try dsimp only [kx_wp, kx_step, kx_lI, kx_lL, kx_lA, kx_gl, kx_pI, kx_pL, kx_pR, kx_pA, kx_pV, kx_s1, kx_s2, kx_sl, kx_pre, kx_c2, kx_pl, kx_cmp, kx_oF, kx_eqN, kx_nil, kx_c1, kx_ft, kx_aI, kx_aL, kx_aR, kx_ln, Nat.reduceAdd, Option.toList, List.cons_append, List.nil_append, cf4_3, cf4_2, cf4_6])
            all_goals (repeat' apply And.intro)
            all_goals ((try clear hB hC); first | exact True.intro | rfl)
      · intro zc34
        first | exact absurd rfl zc34 | exact absurd zc34 (by decide) | exact absurd (by decide) zc34 | (exfalso; first | exact absurd ((nI_ltI (a := days - tm) (b := 0) (by omega) (by omega)).mp zc8) (by omega) | exact absurd ((nI_ltI (a := days - tm) (b := 11) (by omega) (by omega)).mpr (by omega)) zc16 | exact zc34 (by decide) | exact absurd ((nI_ltI (a := n - 1 - k) (b := 0) (by omega) (by omega)).mp zc34) (by omega) | exact absurd ((nI_ltI (a := cp_ix n (days - tm) now) (b := 0) (by omega) (by omega)).mp zc73) (by omega) | exact absurd ((nI_leI (a := 39973) (b := cp_ix n (days - tm) now) (by omega) (by omega)).mp zc83) (by omega) | exact absurd ((nI_ltI (a := cp_ix k (days - tm) now) (b := 0) (by omega) (by omega)).mp zc73) (by omega) | exact absurd ((nI_leI (a := 39973) (b := cp_ix k (days - tm) now) (by omega) (by omega)).mp zc83) (by omega)) | (exfalso; simp_all; done)
    | succ n9 ih =>
      intro k hk
      have zi := ih (k + 1) (by omega)
      rw [cp_hn] at zi
      rw [if_neg (show ¬ k = n by omega)]
      have y1 : (4 : Int32) * nI (n - 1 - k) = nI (4 * (n - 1 - k)) := pk_mul 4 _
      have y2 := cp_dg (cp_ok_lt p7 ho) (show n - 1 - k < 4 by omega)
      have y3 : nI (cp_hn (days - tm + 1) now n k) * nI (days - tm + 1) = nI (cp_hn (days - tm + 1) now n k * (days - tm + 1)) := pk_mul _ _
      have y4 := nI_add (cp_hn (days - tm + 1) now n k * (days - tm + 1)) (cp_d now (n - 1 - k))
      have y5 : nI (n - 1 - k) + (-1) = if k + 1 = n then -1 else nI (n - 1 - (k + 1)) := by
        split
        · rw [show n - 1 - k = 0 by omega]; rfl
        · rw [show n - 1 - k = (n - 1 - (k + 1)) + 1 by omega]; exact pk_m1 _
      refine hB bX4_noteOf_32 _ _ _ _ _ _ _ kX4_noteOf_32 ?_
      dsimp only [bX4_noteOf_32, kx_wp, kx_step, kx_lI, kx_lL, kx_lA, kx_gl, kx_pI, kx_pL, kx_pR, kx_pA, kx_pV, kx_s1, kx_s2, kx_sl, kx_pre, kx_c2, kx_pl, kx_cmp, kx_oF, kx_eqN, kx_nil, kx_c1, kx_ft, kx_aI, kx_aL, kx_aR, kx_ln, Nat.reduceAdd, Option.toList, List.cons_append, List.nil_append, cf4_3, cf4_2, cf4_6]
      repeat (simp only [p1, p2, p3, p4, p6, p8, pa, nI_1, z1, z3, nI_clamp (show days - tm < 2 ^ 31 by omega), ks_eq, ks_ss, y1, y2, y3, y4, y5]; try dsimp only [kx_wp, kx_step, kx_lI, kx_lL, kx_lA, kx_gl, kx_pI, kx_pL, kx_pR, kx_pA, kx_pV, kx_s1, kx_s2, kx_sl, kx_pre, kx_c2, kx_pl, kx_cmp, kx_oF, kx_eqN, kx_nil, kx_c1, kx_ft, kx_aI, kx_aL, kx_aR, kx_ln, Nat.reduceAdd, Option.toList, List.cons_append, List.nil_append, cf4_3, cf4_2, cf4_6])
      repeat' apply And.intro
      all_goals try (first | with_reducible assumption | (with_reducible refine ck_nzI ?_; simp; done) | (with_reducible refine ck_nzL ?_; simp; done) | (with_reducible refine vp_in_nI ?_ ?_ <;> first | omega | decide) | (with_reducible refine Nat.le_of_ble_eq_true ?_; rfl) | omega | exact Or.inl trivial | exact Or.inr trivial | exact Or.inl rfl | exact Or.inr rfl | exact vp_in_nI (by omega) (by decide))
      · intro zc34
        first | exact absurd rfl zc34 | exact absurd zc34 (by decide) | exact absurd (by decide) zc34 | (exfalso; first | exact absurd ((nI_ltI (a := days - tm) (b := 0) (by omega) (by omega)).mp zc8) (by omega) | exact absurd ((nI_ltI (a := days - tm) (b := 11) (by omega) (by omega)).mpr (by omega)) zc16 | exact zc34 (by decide) | exact absurd ((nI_ltI (a := n - 1 - k) (b := 0) (by omega) (by omega)).mp zc34) (by omega) | exact absurd ((nI_ltI (a := cp_ix n (days - tm) now) (b := 0) (by omega) (by omega)).mp zc73) (by omega) | exact absurd ((nI_leI (a := 39973) (b := cp_ix n (days - tm) now) (by omega) (by omega)).mp zc83) (by omega) | exact absurd ((nI_ltI (a := cp_ix k (days - tm) now) (b := 0) (by omega) (by omega)).mp zc73) (by omega) | exact absurd ((nI_leI (a := 39973) (b := cp_ix k (days - tm) now) (by omega) (by omega)).mp zc83) (by omega)) | (exfalso; simp_all; done)
      · intro zc34
        with_reducible first | have ze34 := Int32.not_lt.mp zc34 | have ze34 := zc34
        refine hB bX4_noteOf_37 _ _ _ _ _ _ _ kX4_noteOf_37 ?_
        dsimp only [bX4_noteOf_37, kx_wp, kx_step, kx_lI, kx_lL, kx_lA, kx_gl, kx_pI, kx_pL, kx_pR, kx_pA, kx_pV, kx_s1, kx_s2, kx_sl, kx_pre, kx_c2, kx_pl, kx_cmp, kx_oF, kx_eqN, kx_nil, kx_c1, kx_ft, kx_aI, kx_aL, kx_aR, kx_ln, Nat.reduceAdd, Option.toList, List.cons_append, List.nil_append, cf4_3, cf4_2, cf4_6]
        repeat (simp only [p1, p2, p3, p4, p6, p8, pa, nI_1, z1, z3, nI_clamp (show days - tm < 2 ^ 31 by omega), ks_eq, ks_ss, y1, y2, y3, y4, y5]; try dsimp only [kx_wp, kx_step, kx_lI, kx_lL, kx_lA, kx_gl, kx_pI, kx_pL, kx_pR, kx_pA, kx_pV, kx_s1, kx_s2, kx_sl, kx_pre, kx_c2, kx_pl, kx_cmp, kx_oF, kx_eqN, kx_nil, kx_c1, kx_ft, kx_aI, kx_aL, kx_aR, kx_ln, Nat.reduceAdd, Option.toList, List.cons_append, List.nil_append, cf4_3, cf4_2, cf4_6])
        repeat' apply And.intro
        all_goals try (first | with_reducible assumption | (with_reducible refine ck_nzI ?_; simp; done) | (with_reducible refine ck_nzL ?_; simp; done) | (with_reducible refine vp_in_nI ?_ ?_ <;> first | omega | decide) | (with_reducible refine Nat.le_of_ble_eq_true ?_; rfl) | omega | exact Or.inl trivial | exact Or.inr trivial | exact Or.inl rfl | exact Or.inr rfl | exact vp_in_nI (by omega) (by decide))
        all_goals exact zi
  refine hB bX4_noteOf_0 _ _ _ _ _ _ _ kX4_noteOf_0 ?_
  dsimp only [bX4_noteOf_0, kx_wp, kx_step, kx_lI, kx_lL, kx_lA, kx_gl, kx_pI, kx_pL, kx_pR, kx_pA, kx_pV, kx_s1, kx_s2, kx_sl, kx_pre, kx_c2, kx_pl, kx_cmp, kx_oF, kx_eqN, kx_nil, kx_c1, kx_ft, kx_aI, kx_aL, kx_aR, kx_ln, Nat.reduceAdd, Option.toList, List.cons_append, List.nil_append, cf4_3, cf4_2, cf4_6]
  repeat (simp only [p1, p2, p3, p4, p6, p8, pa, nI_1, z1, z3, nI_clamp (show days - tm < 2 ^ 31 by omega), ks_eq, ks_ss, z2]; try dsimp only [kx_wp, kx_step, kx_lI, kx_lL, kx_lA, kx_gl, kx_pI, kx_pL, kx_pR, kx_pA, kx_pV, kx_s1, kx_s2, kx_sl, kx_pre, kx_c2, kx_pl, kx_cmp, kx_oF, kx_eqN, kx_nil, kx_c1, kx_ft, kx_aI, kx_aL, kx_aR, kx_ln, Nat.reduceAdd, Option.toList, List.cons_append, List.nil_append, cf4_3, cf4_2, cf4_6])
  repeat' apply And.intro
  all_goals try (first | with_reducible assumption | (with_reducible refine ck_nzI ?_; simp; done) | (with_reducible refine ck_nzL ?_; simp; done) | (with_reducible refine vp_in_nI ?_ ?_ <;> first | omega | decide) | (with_reducible refine Nat.le_of_ble_eq_true ?_; rfl) | omega | exact Or.inl trivial | exact Or.inr trivial | exact Or.inl rfl | exact Or.inr rfl | exact vp_in_nI (by omega) (by decide))
  · intro zc8
    first | exact absurd rfl zc8 | exact absurd zc8 (by decide) | exact absurd (by decide) zc8 | (exfalso; first | exact absurd ((nI_ltI (a := days - tm) (b := 0) (by omega) (by omega)).mp zc8) (by omega) | exact absurd ((nI_ltI (a := days - tm) (b := 11) (by omega) (by omega)).mpr (by omega)) zc16 | exact zc34 (by decide) | exact absurd ((nI_ltI (a := n - 1 - k) (b := 0) (by omega) (by omega)).mp zc34) (by omega) | exact absurd ((nI_ltI (a := cp_ix n (days - tm) now) (b := 0) (by omega) (by omega)).mp zc73) (by omega) | exact absurd ((nI_leI (a := 39973) (b := cp_ix n (days - tm) now) (by omega) (by omega)).mp zc83) (by omega) | exact absurd ((nI_ltI (a := cp_ix k (days - tm) now) (b := 0) (by omega) (by omega)).mp zc73) (by omega) | exact absurd ((nI_leI (a := 39973) (b := cp_ix k (days - tm) now) (by omega) (by omega)).mp zc83) (by omega)) | (exfalso; simp_all; done)
  · intro zc8
    with_reducible first | have ze8 := Int32.not_lt.mp zc8 | have ze8 := zc8
    refine hB bX4_noteOf_11 _ _ _ _ _ _ _ kX4_noteOf_11 ?_
    dsimp only [bX4_noteOf_11, kx_wp, kx_step, kx_lI, kx_lL, kx_lA, kx_gl, kx_pI, kx_pL, kx_pR, kx_pA, kx_pV, kx_s1, kx_s2, kx_sl, kx_pre, kx_c2, kx_pl, kx_cmp, kx_oF, kx_eqN, kx_nil, kx_c1, kx_ft, kx_aI, kx_aL, kx_aR, kx_ln, Nat.reduceAdd, Option.toList, List.cons_append, List.nil_append, cf4_3, cf4_2, cf4_6]
    repeat (simp only [p1, p2, p3, p4, p6, p8, pa, nI_1, z1, z3, nI_clamp (show days - tm < 2 ^ 31 by omega), ks_eq, ks_ss, z2]; try dsimp only [kx_wp, kx_step, kx_lI, kx_lL, kx_lA, kx_gl, kx_pI, kx_pL, kx_pR, kx_pA, kx_pV, kx_s1, kx_s2, kx_sl, kx_pre, kx_c2, kx_pl, kx_cmp, kx_oF, kx_eqN, kx_nil, kx_c1, kx_ft, kx_aI, kx_aL, kx_aR, kx_ln, Nat.reduceAdd, Option.toList, List.cons_append, List.nil_append, cf4_3, cf4_2, cf4_6])
    repeat' apply And.intro
    all_goals try (first | with_reducible assumption | (with_reducible refine ck_nzI ?_; simp; done) | (with_reducible refine ck_nzL ?_; simp; done) | (with_reducible refine vp_in_nI ?_ ?_ <;> first | omega | decide) | (with_reducible refine Nat.le_of_ble_eq_true ?_; rfl) | omega | exact Or.inl trivial | exact Or.inr trivial | exact Or.inl rfl | exact Or.inr rfl | exact vp_in_nI (by omega) (by decide))
    · intro zc16
      with_reducible first | have ze16 := Int32.not_le.mpr zc16 | have ze16 := zc16
      refine hB bX4_noteOf_21 _ _ _ _ _ _ _ kX4_noteOf_21 ?_
      dsimp only [bX4_noteOf_21, kx_wp, kx_step, kx_lI, kx_lL, kx_lA, kx_gl, kx_pI, kx_pL, kx_pR, kx_pA, kx_pV, kx_s1, kx_s2, kx_sl, kx_pre, kx_c2, kx_pl, kx_cmp, kx_oF, kx_eqN, kx_nil, kx_c1, kx_ft, kx_aI, kx_aL, kx_aR, kx_ln, Nat.reduceAdd, Option.toList, List.cons_append, List.nil_append, cf4_3, cf4_2, cf4_6]
      repeat (simp only [p1, p2, p3, p4, p6, p8, pa, nI_1, z1, z3, nI_clamp (show days - tm < 2 ^ 31 by omega), ks_eq, ks_ss, z2]; try dsimp only [kx_wp, kx_step, kx_lI, kx_lL, kx_lA, kx_gl, kx_pI, kx_pL, kx_pR, kx_pA, kx_pV, kx_s1, kx_s2, kx_sl, kx_pre, kx_c2, kx_pl, kx_cmp, kx_oF, kx_eqN, kx_nil, kx_c1, kx_ft, kx_aI, kx_aL, kx_aR, kx_ln, Nat.reduceAdd, Option.toList, List.cons_append, List.nil_append, cf4_3, cf4_2, cf4_6])
      repeat' apply And.intro
      all_goals try (first | with_reducible assumption | (with_reducible refine ck_nzI ?_; simp; done) | (with_reducible refine ck_nzL ?_; simp; done) | (with_reducible refine vp_in_nI ?_ ?_ <;> first | omega | decide) | (with_reducible refine Nat.le_of_ble_eq_true ?_; rfl) | omega | exact Or.inl trivial | exact Or.inr trivial | exact Or.inl rfl | exact Or.inr rfl | exact vp_in_nI (by omega) (by decide))
      have zi := loop32 n 0 (by omega)
      simp only [show (0 = n) = (n = 0) from propext eq_comm] at zi
      exact zi
    · intro zc16
      first | exact absurd rfl zc16 | exact absurd zc16 (by decide) | exact absurd (by decide) zc16 | (exfalso; first | exact absurd ((nI_ltI (a := days - tm) (b := 0) (by omega) (by omega)).mp zc8) (by omega) | exact absurd ((nI_ltI (a := days - tm) (b := 11) (by omega) (by omega)).mpr (by omega)) zc16 | exact zc34 (by decide) | exact absurd ((nI_ltI (a := n - 1 - k) (b := 0) (by omega) (by omega)).mp zc34) (by omega) | exact absurd ((nI_ltI (a := cp_ix n (days - tm) now) (b := 0) (by omega) (by omega)).mp zc73) (by omega) | exact absurd ((nI_leI (a := 39973) (b := cp_ix n (days - tm) now) (by omega) (by omega)).mp zc83) (by omega) | exact absurd ((nI_ltI (a := cp_ix k (days - tm) now) (b := 0) (by omega) (by omega)).mp zc73) (by omega) | exact absurd ((nI_leI (a := 39973) (b := cp_ix k (days - tm) now) (by omega) (by omega)).mp zc83) (by omega)) | (exfalso; simp_all; done)


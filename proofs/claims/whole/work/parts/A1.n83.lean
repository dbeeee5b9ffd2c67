def cp_fs (nx : Nat → Option Nat) (f : Nat → Nat) (v : Nat) : Nat → Nat → Nat
  | 0, _ => 0
  | m + 1, w => match nx w with
    | none => cp_fs nx f v m (w + 1)
    | some s => if ck_pc w + f s = v then w else cp_fs nx f v m (w + 1)
theorem cp_fm_at {nx : Nat → Option Nat} {f : Nat → Nat} : ∀ k, cp_fm nx f k < 63 → ∃ w s, w < k ∧ nx w = some s ∧ ck_pc w + f s = cp_fm nx f k := by
  intro k
  induction k with
  | zero => intro h; exact absurd h (by simp [cp_fm])
  | succ k ih =>
    intro h
    rw [cp_fm] at h ⊢
    rcases hs : nx k with _ | s
    · simp only [hs] at h ⊢
      obtain ⟨w, s, h1, h2, h3⟩ := ih h
      exact ⟨w, s, by omega, h2, h3⟩
    · simp only [hs] at h ⊢
      by_cases c : cp_fm nx f k ≤ ck_pc k + f s
      · rw [Nat.min_eq_left c] at h ⊢
        obtain ⟨w, s2, h1, h2, h3⟩ := ih h
        exact ⟨w, s2, by omega, h2, h3⟩
      · rw [Nat.min_eq_right (by omega)] at h ⊢
        exact ⟨k, s, by omega, hs, rfl⟩
theorem cp_fs_at {nx : Nat → Option Nat} {f : Nat → Nat} {v : Nat} : ∀ m w0, (∃ w s, w0 ≤ w ∧ w < w0 + m ∧ nx w = some s ∧ ck_pc w + f s = v) → cp_fs nx f v m w0 < w0 + m ∧ ∃ s, nx (cp_fs nx f v m w0) = some s ∧ ck_pc (cp_fs nx f v m w0) + f s = v := by
  intro m
  induction m with
  | zero => rintro w0 ⟨w, s, h1, h2, -⟩; omega
  | succ m ih =>
    rintro w0 ⟨w, s, h1, h2, h3, h4⟩
    rw [cp_fs]
    rcases hs : nx w0 with _ | s0
    · dsimp only
      have : w ≠ w0 := fun e => by rw [e, hs] at h3; cases h3
      obtain ⟨a, b⟩ := ih (w0 + 1) ⟨w, s, by omega, by omega, h3, h4⟩
      exact ⟨by omega, b⟩
    · dsimp only
      split
      · rename_i h5
        exact ⟨by omega, s0, hs, h5⟩
      · rename_i h5
        have : w ≠ w0 := fun e => by rw [e, hs] at h3; cases h3; rw [e] at h4; exact h5 h4
        obtain ⟨a, b⟩ := ih (w0 + 1) ⟨w, s, by omega, by omega, h3, h4⟩
        exact ⟨by omega, b⟩
/-- who is wound at a time, with r times behind it -/
def cp_fb (ws : Nat → Nat) (n many r now : Nat) : Nat := cp_fs (fun w => cp_nx ws n many r now w) (cp_fw ws n many r) (cp_fw ws n many (r + 1) now) (2 ^ n) 0
theorem cp_fb_at {ws : Nat → Nat} {n many r now : Nat} (h : cp_fw ws n many (r + 1) now < 63) : cp_fb ws n many r now < 2 ^ n ∧ ∃ s, cp_nx ws n many r now (cp_fb ws n many r now) = some s ∧ cp_fw ws n many r s < 63 := by
  obtain ⟨w, s, h1, h2, h3⟩ := cp_fm_at (2 ^ n) h
  obtain ⟨a, s2, b, c⟩ := cp_fs_at (nx := fun w => cp_nx ws n many r now w) (f := cp_fw ws n many r) (v := cp_fw ws n many (r + 1) now) (2 ^ n) 0 ⟨w, s, Nat.zero_le _, by omega, h2, h3⟩
  refine ⟨by unfold cp_fb; omega, s2, b, ?_⟩
  omega
/-- the states one time behind another -/
def cp_wn (ws : Nat → Nat) (n many days st : Nat) : Nat → Nat
  | 0 => st
  | k + 1 => (cp_nx ws n many (days - k - 1) (cp_wn ws n many days st k) (cp_fb ws n many (days - k - 1) (cp_wn ws n many days st k))).getD 0
theorem cp_wn_at {ws : Nat → Nat} {n many days st : Nat} (hd : days ≤ 10) (ho : cp_ok n days st) (hf : cp_fw ws n many days st < 63) : ∀ k, k ≤ days → cp_ok n (days - k) (cp_wn ws n many days st k) ∧ cp_fw ws n many (days - k) (cp_wn ws n many days st k) < 63 := by
  intro k
  induction k with
  | zero => intro _; exact ⟨ho, hf⟩
  | succ k ih =>
    intro hk
    obtain ⟨h1, h2⟩ := ih (by omega)
    rw [show days - k = days - k - 1 + 1 by omega] at h2
    obtain ⟨h3, s, h4, h5⟩ := cp_fb_at h2
    rw [cp_wn, h4, Option.getD_some, show days - (k + 1) = days - k - 1 by omega]
    exact ⟨cp_nx_ok (by omega) h4, h5⟩
theorem cp_wn_s {ws : Nat → Nat} {n many days st : Nat} (hd : days ≤ 10) (ho : cp_ok n days st) (hf : cp_fw ws n many days st < 63) {k : Nat} (hk : k < days) : cp_nx ws n many (days - k - 1) (cp_wn ws n many days st k) (cp_fb ws n many (days - k - 1) (cp_wn ws n many days st k)) = some (cp_wn ws n many days st (k + 1)) := by
  obtain ⟨h1, h2⟩ := cp_wn_at hd ho hf k (by omega)
  rw [show days - k = days - k - 1 + 1 by omega] at h2
  obtain ⟨h3, s, h4, h5⟩ := cp_fb_at h2
  rw [cp_wn, h4, Option.getD_some]
def cp_nm (NU : Nat → Int32) (w : Nat) : Nat → Int32
  | 0 => 0
  | i + 1 => cp_nm NU w i ||| (nI (w / 2 ^ i % 2) <<< (NU i &&& 31))
theorem cp_oi_n (v : Nat) (h : v < 2 ^ 31) : ¬ cp_oi (some v) = -1 := by
  intro e
  have := congrArg Int32.toInt e
  rw [show (cp_oi (some v)).toInt = (v : Int) from nI_toInt h] at this
  have e2 : (-1 : Int32).toInt = -1 := by decide
  omega
def bX4_windings_0 : List kx_O := [(.aload_n 0, 0, 0, 0, .null), (.getfield 28, 4, 5, 0, .null), (.iconst (-1), 0, 0, 0, .int (-1)), (.if_icmp .ne 8, 13, 0, 0, .null)]
theorem kX4_windings_0 : kx_oks kxL_X4 false cX4_windings 0 bX4_windings_0 = true := by decide +kernel
def bX4_windings_8 : List kx_O := [(.bipush 63, 0, 0, 0, .int 63), (.goto 12, 22, 0, 0, .null)]
theorem kX4_windings_8 : kx_oks kxL_X4 false cX4_windings 8 bX4_windings_8 = true := by decide +kernel
def bX4_windings_13 : List kx_O := [(.aload_n 0, 0, 0, 0, .null), (.iconst 0, 0, 0, 0, .int 0), (.aload_n 0, 0, 0, 0, .null), (.getfield 28, 4, 5, 0, .null)]
theorem kX4_windings_13 : kx_oks kxL_X4 false cX4_windings 13 bX4_windings_13 = true := by decide +kernel
def bX4_windings_22 : List kx_O := [(.istore_n 1, 1, 0, 0, .null), (.iload_n 1, 1, 0, 0, .null), (.bipush 63, 0, 0, 0, .int 63), (.if_icmp .lt 7, 33, 0, 0, .null)]
theorem kX4_windings_22 : kx_oks kxL_X4 false cX4_windings 22 bX4_windings_22 = true := by decide +kernel
def bX4_windings_29 : List kx_O := [(.iconst (-1), 0, 0, 0, .int (-1)), (.goto 4, 34, 0, 0, .null)]
theorem kX4_windings_29 : kx_oks kxL_X4 false cX4_windings 29 bX4_windings_29 = true := by decide +kernel
def bX4_windings_33 : List kx_O := [(.iload_n 1, 1, 0, 0, .null)]
theorem kX4_windings_33 : kx_oks kxL_X4 false cX4_windings 33 bX4_windings_33 = true := by decide +kernel
def bX4_windings_34 : List kx_O := [(.ireturn, 0, 0, 0, .null)]
theorem kX4_windings_34 : kx_oks kxL_X4 false cX4_windings 34 bX4_windings_34 = true := by decide +kernel
theorem dX4_windings_19 : decode cX4_windings 19 = .ok (.invokevirtual 62, 3) := by decide +kernel
set_option maxRecDepth 100000 in
set_option maxHeartbeats 4000000 in
theorem ct_X4_windings_n (l : Launch) (G : kx_G) {P : kx_P} {sz : Nat} {F : Nat → Int32} {nv : Value} (hO : P 81 = kO 4 (kf (cr4 nv) F)) (h5 : F 5 = -1)  : kx_M l G sX4_windings 25 0 0 [.ref 81] P sz (some (.int (-1))) P sz := by
  refine kx_mk kx_tab kxLok_X4 (ini := false) [some (.ref 81), none] ⟨by decide, rfl, by decide, by decide⟩ (⟨_, rfl⟩) rfl rfl (fun g hB hC => ?_)
  refine hB bX4_windings_0 _ _ _ _ _ _ _ kX4_windings_0 ?_
  dsimp only [bX4_windings_0, kx_wp, kx_step, kx_lI, kx_lL, kx_lA, kx_gl, kx_pI, kx_pL, kx_pR, kx_pA, kx_pV, kx_s1, kx_s2, kx_sl, kx_pre, kx_c2, kx_pl, kx_cmp, kx_oF, kx_eqN, kx_nil, kx_c1, kx_ft, kx_aI, kx_aL, kx_aR, kx_ln, Nat.reduceAdd, Option.toList, List.cons_append, List.nil_append, cf4_5]
  repeat (simp only [hO, h5, ks_eq, ks_ss]; try dsimp only [kx_wp, kx_step, kx_lI, kx_lL, kx_lA, kx_gl, kx_pI, kx_pL, kx_pR, kx_pA, kx_pV, kx_s1, kx_s2, kx_sl, kx_pre, kx_c2, kx_pl, kx_cmp, kx_oF, kx_eqN, kx_nil, kx_c1, kx_ft, kx_aI, kx_aL, kx_aR, kx_ln, Nat.reduceAdd, Option.toList, List.cons_append, List.nil_append, cf4_5])
  repeat' apply And.intro
  all_goals try (first | with_reducible assumption | (with_reducible refine ck_nzI ?_; simp; done) | (with_reducible refine ck_nzL ?_; simp; done) | (with_reducible refine vp_in_nI ?_ ?_ <;> first | omega | decide) | (with_reducible refine Nat.le_of_ble_eq_true ?_; rfl) | omega | exact Or.inl trivial | exact Or.inr trivial | exact Or.inl rfl | exact Or.inr rfl)
  · intro zc5
    first | exact absurd rfl zc5 | exact absurd zc5 (by decide) | exact absurd (by decide) zc5 | (exfalso; first | exact zc5 rfl | exact absurd zc26 (by decide)) | (exfalso; simp_all; done)
  · intro zc5
    with_reducible first | have ze5 := Decidable.not_not.mp zc5 | have ze5 := zc5
    refine hB bX4_windings_8 _ _ _ _ _ _ _ kX4_windings_8 ?_
    dsimp only [bX4_windings_8, kx_wp, kx_step, kx_lI, kx_lL, kx_lA, kx_gl, kx_pI, kx_pL, kx_pR, kx_pA, kx_pV, kx_s1, kx_s2, kx_sl, kx_pre, kx_c2, kx_pl, kx_cmp, kx_oF, kx_eqN, kx_nil, kx_c1, kx_ft, kx_aI, kx_aL, kx_aR, kx_ln, Nat.reduceAdd, Option.toList, List.cons_append, List.nil_append, cf4_5]
    repeat (simp only [hO, h5, ks_eq, ks_ss]; try dsimp only [kx_wp, kx_step, kx_lI, kx_lL, kx_lA, kx_gl, kx_pI, kx_pL, kx_pR, kx_pA, kx_pV, kx_s1, kx_s2, kx_sl, kx_pre, kx_c2, kx_pl, kx_cmp, kx_oF, kx_eqN, kx_nil, kx_c1, kx_ft, kx_aI, kx_aL, kx_aR, kx_ln, Nat.reduceAdd, Option.toList, List.cons_append, List.nil_append, cf4_5])
    repeat' apply And.intro
    all_goals try (first | with_reducible assumption | (with_reducible refine ck_nzI ?_; simp; done) | (with_reducible refine ck_nzL ?_; simp; done) | (with_reducible refine vp_in_nI ?_ ?_ <;> first | omega | decide) | (with_reducible refine Nat.le_of_ble_eq_true ?_; rfl) | omega | exact Or.inl trivial | exact Or.inr trivial | exact Or.inl rfl | exact Or.inr rfl)
    refine hB bX4_windings_22 _ _ _ _ _ _ _ kX4_windings_22 ?_
    dsimp only [bX4_windings_22, kx_wp, kx_step, kx_lI, kx_lL, kx_lA, kx_gl, kx_pI, kx_pL, kx_pR, kx_pA, kx_pV, kx_s1, kx_s2, kx_sl, kx_pre, kx_c2, kx_pl, kx_cmp, kx_oF, kx_eqN, kx_nil, kx_c1, kx_ft, kx_aI, kx_aL, kx_aR, kx_ln, Nat.reduceAdd, Option.toList, List.cons_append, List.nil_append, cf4_5]
    repeat (simp only [hO, h5, ks_eq, ks_ss]; try dsimp only [kx_wp, kx_step, kx_lI, kx_lL, kx_lA, kx_gl, kx_pI, kx_pL, kx_pR, kx_pA, kx_pV, kx_s1, kx_s2, kx_sl, kx_pre, kx_c2, kx_pl, kx_cmp, kx_oF, kx_eqN, kx_nil, kx_c1, kx_ft, kx_aI, kx_aL, kx_aR, kx_ln, Nat.reduceAdd, Option.toList, List.cons_append, List.nil_append, cf4_5])
    repeat' apply And.intro
    all_goals try (first | with_reducible assumption | (with_reducible refine ck_nzI ?_; simp; done) | (with_reducible refine ck_nzL ?_; simp; done) | (with_reducible refine vp_in_nI ?_ ?_ <;> first | omega | decide) | (with_reducible refine Nat.le_of_ble_eq_true ?_; rfl) | omega | exact Or.inl trivial | exact Or.inr trivial | exact Or.inl rfl | exact Or.inr rfl)
    · intro zc26
      first | exact absurd rfl zc26 | exact absurd zc26 (by decide) | exact absurd (by decide) zc26 | (exfalso; first | exact zc5 rfl | exact absurd zc26 (by decide)) | (exfalso; simp_all; done)
    · intro zc26
      with_reducible first | have ze26 := Int32.not_lt.mp zc26 | have ze26 := zc26
      refine hB bX4_windings_29 _ _ _ _ _ _ _ kX4_windings_29 ?_
      dsimp only [bX4_windings_29, kx_wp, kx_step, kx_lI, kx_lL, kx_lA, kx_gl, kx_pI, kx_pL, kx_pR, kx_pA, kx_pV, kx_s1, kx_s2, kx_sl, kx_pre, kx_c2, kx_pl, kx_cmp, kx_oF, kx_eqN, kx_nil, kx_c1, kx_ft, kx_aI, kx_aL, kx_aR, kx_ln, Nat.reduceAdd, Option.toList, List.cons_append, List.nil_append, cf4_5]
      repeat (simp only [hO, h5, ks_eq, ks_ss]; try dsimp only [kx_wp, kx_step, kx_lI, kx_lL, kx_lA, kx_gl, kx_pI, kx_pL, kx_pR, kx_pA, kx_pV, kx_s1, kx_s2, kx_sl, kx_pre, kx_c2, kx_pl, kx_cmp, kx_oF, kx_eqN, kx_nil, kx_c1, kx_ft, kx_aI, kx_aL, kx_aR, kx_ln, Nat.reduceAdd, Option.toList, List.cons_append, List.nil_append, cf4_5])
      repeat' apply And.intro
      all_goals try (first | with_reducible assumption | (with_reducible refine ck_nzI ?_; simp; done) | (with_reducible refine ck_nzL ?_; simp; done) | (with_reducible refine vp_in_nI ?_ ?_ <;> first | omega | decide) | (with_reducible refine Nat.le_of_ble_eq_true ?_; rfl) | omega | exact Or.inl trivial | exact Or.inr trivial | exact Or.inl rfl | exact Or.inr rfl)
      refine hB bX4_windings_34 _ _ _ _ _ _ _ kX4_windings_34 ?_
      dsimp only [bX4_windings_34, kx_wp, kx_step, kx_lI, kx_lL, kx_lA, kx_gl, kx_pI, kx_pL, kx_pR, kx_pA, kx_pV, kx_s1, kx_s2, kx_sl, kx_pre, kx_c2, kx_pl, kx_cmp, kx_oF, kx_eqN, kx_nil, kx_c1, kx_ft, kx_aI, kx_aL, kx_aR, kx_ln, Nat.reduceAdd, Option.toList, List.cons_append, List.nil_append, cf4_5]
      repeat (simp only [hO, h5, ks_eq, ks_ss]; try dsimp only [kx_wp, kx_step, kx_lI, kx_lL, kx_lA, kx_gl, kx_pI, kx_pL, kx_pR, kx_pA, kx_pV, kx_s1, kx_s2, kx_sl, kx_pre, kx_c2, kx_pl, kx_cmp, kx_oF, kx_eqN, kx_nil, kx_c1, kx_ft, kx_aI, kx_aL, kx_aR, kx_ln, Nat.reduceAdd, Option.toList, List.cons_append, List.nil_append, cf4_5])
      all_goals (repeat' apply And.intro)
      all_goals ((try clear hB hC); first | exact True.intro | with_reducible rfl | with_reducible assumption | (with_reducible refine vp_in_nI ?_ ?_ <;> first | omega | decide) | exact Nat.le_of_ble_eq_true rfl | (with_reducible refine ck_nzI ?_; simp; done) | (with_reducible refine ck_nzL ?_; simp; done) | (simp only [pk_us, pk_uLs, eq_true ze5, zc26, ze26, ↓reduceIte, not_true_eq_false, not_false_eq_true]; done) | (simp only [eq_true ze5, zc26, ze26, ↓reduceIte, not_true_eq_false, not_false_eq_true]; with_reducible rfl) | omega | skip)

set_option maxRecDepth 100000 in
set_option maxHeartbeats 4000000 in
theorem ct_X4_windings (l : Launch) (G : kx_G) {P : kx_P} {sz : Nat} {nt : Nat} {F WS N : Nat → Int32} {ws : Nat → Nat} {n days many se : Nat} (hp : cp_H P nt F WS N ws n days many) (hF : F 7 = nI se) (hse : se ≤ 1000) (hv : cp_nv ws n many days se N) {st : Nat} (ho : cp_ok n days st) (h5 : F 5 = nI st)  : kx_Mn l G sX4_windings 25 0 0 [.ref 81] P sz (fun rr P2 s2 => rr = some (.int ((if cp_fw ws n many days st < 63 then nI (cp_fw ws n many days st) else -1))) ∧ (∃ N2, P2 = kx_set P nt (kI 0 39973 N2) ∧ cp_nv ws n many days se N2) ∧ sz = s2) := by
  have hp0 := hp
  obtain ⟨p1, p2, p3, p4, p5, p6, p7, p8, p9, pa, pb, pc⟩ := hp
  have n81 : ¬ 81 = nt := by omega
  have n82 : ¬ 82 = nt := by omega
  have hst := cp_ok_lt p7 ho
  have z0 : ¬ nI st = -1 := cp_oi_n st (by omega)
  have zf := cp_fw_le ws n many days st
  refine kx_mkn kx_tab kxLok_X4 (ini := false) [some (.ref 81), none] ⟨by decide, rfl, by decide, by decide⟩ (fun _ _ _ h => ⟨_, h.1⟩) rfl rfl (fun g hB hC hN => ?_)
  refine hB bX4_windings_0 _ _ _ _ _ _ _ kX4_windings_0 ?_
  dsimp only [bX4_windings_0, kx_wp, kx_step, kx_lI, kx_lL, kx_lA, kx_gl, kx_pI, kx_pL, kx_pR, kx_pA, kx_pV, kx_s1, kx_s2, kx_sl, kx_pre, kx_c2, kx_pl, kx_cmp, kx_oF, kx_eqN, kx_nil, kx_c1, kx_ft, kx_aI, kx_aL, kx_aR, kx_ln, Nat.reduceAdd, Option.toList, List.cons_append, List.nil_append, cf4_5]
  repeat (simp only [p1, p2, p3, p4, p6, p8, pa, hF, ks_ne n81, ks_ne n82, h5, ks_eq, ks_ss]; try dsimp only [kx_wp, kx_step, kx_lI, kx_lL, kx_lA, kx_gl, kx_pI, kx_pL, kx_pR, kx_pA, kx_pV, kx_s1, kx_s2, kx_sl, kx_pre, kx_c2, kx_pl, kx_cmp, kx_oF, kx_eqN, kx_nil, kx_c1, kx_ft, kx_aI, kx_aL, kx_aR, kx_ln, Nat.reduceAdd, Option.toList, List.cons_append, List.nil_append, cf4_5])
  repeat' apply And.intro
  all_goals try (first | with_reducible assumption | (with_reducible refine ck_nzI ?_; simp; done) | (with_reducible refine ck_nzL ?_; simp; done) | (with_reducible refine vp_in_nI ?_ ?_ <;> first | omega | decide) | (with_reducible refine Nat.le_of_ble_eq_true ?_; rfl) | omega | exact Or.inl trivial | exact Or.inr trivial | exact Or.inl rfl | exact Or.inr rfl)
  · intro zc5
    have ze5 := zc5
    refine hB bX4_windings_13 _ _ _ _ _ _ _ kX4_windings_13 ?_
    dsimp only [bX4_windings_13, kx_wp, kx_step, kx_lI, kx_lL, kx_lA, kx_gl, kx_pI, kx_pL, kx_pR, kx_pA, kx_pV, kx_s1, kx_s2, kx_sl, kx_pre, kx_c2, kx_pl, kx_cmp, kx_oF, kx_eqN, kx_nil, kx_c1, kx_ft, kx_aI, kx_aL, kx_aR, kx_ln, Nat.reduceAdd, Option.toList, List.cons_append, List.nil_append, cf4_5]
    repeat (simp only [p1, p2, p3, p4, p6, p8, pa, hF, ks_ne n81, ks_ne n82, h5, ks_eq, ks_ss]; try dsimp only [kx_wp, kx_step, kx_lI, kx_lL, kx_lA, kx_gl, kx_pI, kx_pL, kx_pR, kx_pA, kx_pV, kx_s1, kx_s2, kx_sl, kx_pre, kx_c2, kx_pl, kx_cmp, kx_oF, kx_eqN, kx_nil, kx_c1, kx_ft, kx_aI, kx_aL, kx_aR, kx_ln, Nat.reduceAdd, Option.toList, List.cons_append, List.nil_append, cf4_5])
    repeat' apply And.intro
    all_goals try (first | with_reducible assumption | (with_reducible refine ck_nzI ?_; simp; done) | (with_reducible refine ck_nzL ?_; simp; done) | (with_reducible refine vp_in_nI ?_ ?_ <;> first | omega | decide) | (with_reducible refine Nat.le_of_ble_eq_true ?_; rfl) | omega | exact Or.inl trivial | exact Or.inr trivial | exact Or.inl rfl | exact Or.inr rfl)
    refine hN.1 62 _ _ _ _ _ _ _ 4 _ _ _ _ _ _ _ _ _ _ lX4_62 (ct_X4_fewest l G hF hse days P N 0 st hp0 hv (Nat.zero_add _) ho) ⟨by decide, rfl⟩ (p1) rfl rfl (Nat.le_of_ble_eq_true rfl) (by omega) (by decide) (by omega) (by omega) dX4_windings_19 ?_
    rintro r2 P2 s2 ⟨rfl, ⟨N2, rfl, hv2⟩, rfl⟩
    refine hB bX4_windings_22 _ _ _ _ _ _ _ kX4_windings_22 ?_
    dsimp only [bX4_windings_22, kx_wp, kx_step, kx_lI, kx_lL, kx_lA, kx_gl, kx_pI, kx_pL, kx_pR, kx_pA, kx_pV, kx_s1, kx_s2, kx_sl, kx_pre, kx_c2, kx_pl, kx_cmp, kx_oF, kx_eqN, kx_nil, kx_c1, kx_ft, kx_aI, kx_aL, kx_aR, kx_ln, Nat.reduceAdd, Option.toList, List.cons_append, List.nil_append, cf4_5]
    repeat (simp only [p1, p2, p3, p4, p6, p8, pa, hF, ks_ne n81, ks_ne n82, h5, ks_eq, ks_ss]; try dsimp only [kx_wp, kx_step, kx_lI, kx_lL, kx_lA, kx_gl, kx_pI, kx_pL, kx_pR, kx_pA, kx_pV, kx_s1, kx_s2, kx_sl, kx_pre, kx_c2, kx_pl, kx_cmp, kx_oF, kx_eqN, kx_nil, kx_c1, kx_ft, kx_aI, kx_aL, kx_aR, kx_ln, Nat.reduceAdd, Option.toList, List.cons_append, List.nil_append, cf4_5])
    repeat' apply And.intro
    all_goals try (first | with_reducible assumption | (with_reducible refine ck_nzI ?_; simp; done) | (with_reducible refine ck_nzL ?_; simp; done) | (with_reducible refine vp_in_nI ?_ ?_ <;> first | omega | decide) | (with_reducible refine Nat.le_of_ble_eq_true ?_; rfl) | omega | exact Or.inl trivial | exact Or.inr trivial | exact Or.inl rfl | exact Or.inr rfl)
    · intro zc26
      with_reducible first | have ze26 := Int32.not_le.mpr zc26 | have ze26 := zc26
      refine hB bX4_windings_33 _ _ _ _ _ _ _ kX4_windings_33 ?_
      dsimp only [bX4_windings_33, kx_wp, kx_step, kx_lI, kx_lL, kx_lA, kx_gl, kx_pI, kx_pL, kx_pR, kx_pA, kx_pV, kx_s1, kx_s2, kx_sl, kx_pre, kx_c2, kx_pl, kx_cmp, kx_oF, kx_eqN, kx_nil, kx_c1, kx_ft, kx_aI, kx_aL, kx_aR, kx_ln, Nat.reduceAdd, Option.toList, List.cons_append, List.nil_append, cf4_5]
      repeat (simp only [p1, p2, p3, p4, p6, p8, pa, hF, ks_ne n81, ks_ne n82, h5, ks_eq, ks_ss]; try dsimp only [kx_wp, kx_step, kx_lI, kx_lL, kx_lA, kx_gl, kx_pI, kx_pL, kx_pR, kx_pA, kx_pV, kx_s1, kx_s2, kx_sl, kx_pre, kx_c2, kx_pl, kx_cmp, kx_oF, kx_eqN, kx_nil, kx_c1, kx_ft, kx_aI, kx_aL, kx_aR, kx_ln, Nat.reduceAdd, Option.toList, List.cons_append, List.nil_append, cf4_5])
      repeat' apply And.intro
      all_goals try (first | with_reducible assumption | (with_reducible refine ck_nzI ?_; simp; done) | (with_reducible refine ck_nzL ?_; simp; done) | (with_reducible refine vp_in_nI ?_ ?_ <;> first | omega | decide) | (with_reducible refine Nat.le_of_ble_eq_true ?_; rfl) | omega | exact Or.inl trivial | exact Or.inr trivial | exact Or.inl rfl | exact Or.inr rfl)
      refine hB bX4_windings_34 _ _ _ _ _ _ _ kX4_windings_34 ?_
      dsimp only [bX4_windings_34, kx_wp, kx_step, kx_lI, kx_lL, kx_lA, kx_gl, kx_pI, kx_pL, kx_pR, kx_pA, kx_pV, kx_s1, kx_s2, kx_sl, kx_pre, kx_c2, kx_pl, kx_cmp, kx_oF, kx_eqN, kx_nil, kx_c1, kx_ft, kx_aI, kx_aL, kx_aR, kx_ln, Nat.reduceAdd, Option.toList, List.cons_append, List.nil_append, cf4_5]
      repeat (simp only [p1, p2, p3, p4, p6, p8, pa, hF, ks_ne n81, ks_ne n82, h5, ks_eq, ks_ss]; try dsimp only [kx_wp, kx_step, kx_lI, kx_lL, kx_lA, kx_gl, kx_pI, kx_pL, kx_pR, kx_pA, kx_pV, kx_s1, kx_s2, kx_sl, kx_pre, kx_c2, kx_pl, kx_cmp, kx_oF, kx_eqN, kx_nil, kx_c1, kx_ft, kx_aI, kx_aL, kx_aR, kx_ln, Nat.reduceAdd, Option.toList, List.cons_append, List.nil_append, cf4_5])
      all_goals (repeat' apply And.intro)
      all_goals ((try clear hB hC); first | exact True.intro | exact ⟨N2, rfl, hv2⟩ | exact rfl | (rw [if_pos ((nI_ltI (b := 63) (by omega) (by omega)).mp zc26)]; done) | (rw [if_neg (fun e => zc26 ((nI_ltI (b := 63) (by omega) (by omega)).mpr e))]; done) | trace_state)
    · intro zc26
      with_reducible first | have ze26 := Int32.not_lt.mp zc26 | have ze26 := zc26
      refine hB bX4_windings_29 _ _ _ _ _ _ _ kX4_windings_29 ?_
      dsimp only [bX4_windings_29, kx_wp, kx_step, kx_lI, kx_lL, kx_lA, kx_gl, kx_pI, kx_pL, kx_pR, kx_pA, kx_pV, kx_s1, kx_s2, kx_sl, kx_pre, kx_c2, kx_pl, kx_cmp, kx_oF, kx_eqN, kx_nil, kx_c1, kx_ft, kx_aI, kx_aL, kx_aR, kx_ln, Nat.reduceAdd, Option.toList, List.cons_append, List.nil_append, cf4_5]
      repeat (simp only [p1, p2, p3, p4, p6, p8, pa, hF, ks_ne n81, ks_ne n82, h5, ks_eq, ks_ss]; try dsimp only [kx_wp, kx_step, kx_lI, kx_lL, kx_lA, kx_gl, kx_pI, kx_pL, kx_pR, kx_pA, kx_pV, kx_s1, kx_s2, kx_sl, kx_pre, kx_c2, kx_pl, kx_cmp, kx_oF, kx_eqN, kx_nil, kx_c1, kx_ft, kx_aI, kx_aL, kx_aR, kx_ln, Nat.reduceAdd, Option.toList, List.cons_append, List.nil_append, cf4_5])
      repeat' apply And.intro
      all_goals try (first | with_reducible assumption | (with_reducible refine ck_nzI ?_; simp; done) | (with_reducible refine ck_nzL ?_; simp; done) | (with_reducible refine vp_in_nI ?_ ?_ <;> first | omega | decide) | (with_reducible refine Nat.le_of_ble_eq_true ?_; rfl) | omega | exact Or.inl trivial | exact Or.inr trivial | exact Or.inl rfl | exact Or.inr rfl)
      refine hB bX4_windings_34 _ _ _ _ _ _ _ kX4_windings_34 ?_
      dsimp only [bX4_windings_34, kx_wp, kx_step, kx_lI, kx_lL, kx_lA, kx_gl, kx_pI, kx_pL, kx_pR, kx_pA, kx_pV, kx_s1, kx_s2, kx_sl, kx_pre, kx_c2, kx_pl, kx_cmp, kx_oF, kx_eqN, kx_nil, kx_c1, kx_ft, kx_aI, kx_aL, kx_aR, kx_ln, Nat.reduceAdd, Option.toList, List.cons_append, List.nil_append, cf4_5]
      repeat (simp only [p1, p2, p3, p4, p6, p8, pa, hF, ks_ne n81, ks_ne n82, h5, ks_eq, ks_ss]; try dsimp only [kx_wp, kx_step, kx_lI, kx_lL, kx_lA, kx_gl, kx_pI, kx_pL, kx_pR, kx_pA, kx_pV, kx_s1, kx_s2, kx_sl, kx_pre, kx_c2, kx_pl, kx_cmp, kx_oF, kx_eqN, kx_nil, kx_c1, kx_ft, kx_aI, kx_aL, kx_aR, kx_ln, Nat.reduceAdd, Option.toList, List.cons_append, List.nil_append, cf4_5])
      all_goals (repeat' apply And.intro)
      all_goals ((try clear hB hC); first | exact True.intro | exact ⟨N2, rfl, hv2⟩ | exact rfl | (rw [if_pos ((nI_ltI (b := 63) (by omega) (by omega)).mp zc26)]; done) | (rw [if_neg (fun e => zc26 ((nI_ltI (b := 63) (by omega) (by omega)).mpr e))]; done) | trace_state)
  · intro zc5
    first | exact absurd rfl zc5 | exact absurd zc5 (by decide) | exact absurd (by decide) zc5 | (exfalso; first | exact zc5 z0 | exact z0 zc5) | (exfalso; simp_all; done)

def bX4_named_0 : List kx_O := [(.iconst 0, 0, 0, 0, .int 0), (.istore_n 2, 2, 0, 0, .null), (.iconst 0, 0, 0, 0, .int 0), (.istore_n 3, 3, 0, 0, .null)]
theorem kX4_named_0 : kx_oks kxL_X4 false cX4_named 0 bX4_named_0 = true := by decide +kernel
def bX4_named_4 : List kx_O := [(.iload_n 3, 3, 0, 0, .null), (.aload_n 0, 0, 0, 0, .null), (.getfield 18, 4, 2, 0, .null), (.if_icmp .ge 33, 42, 0, 0, .null)]
theorem kX4_named_4 : kx_oks kxL_X4 false cX4_named 4 bX4_named_4 = true := by decide +kernel
def bX4_named_12 : List kx_O := [(.iload_n 3, 3, 0, 0, .null), (.aload_n 0, 0, 0, 0, .null), (.getfield 11, 4, 0, 0, .null), (.arraylength, 0, 0, 0, .null), (.if_icmp .ge 24, 42, 0, 0, .null)]
theorem kX4_named_12 : kx_oks kxL_X4 false cX4_named 12 bX4_named_12 = true := by decide +kernel
def bX4_named_21 : List kx_O := [(.iload_n 2, 2, 0, 0, .null), (.iload_n 1, 1, 0, 0, .null), (.iload_n 3, 3, 0, 0, .null), (.ishr, 0, 0, 0, .null), (.iconst 1, 0, 0, 0, .int 1), (.iand, 0, 0, 0, .null), (.aload_n 0, 0, 0, 0, .null), (.getfield 11, 4, 0, 0, .null), (.iload_n 3, 3, 0, 0, .null), (.iaload, 0, 0, 0, .null), (.ishl, 0, 0, 0, .null), (.ior, 0, 0, 0, .null), (.istore_n 2, 2, 0, 0, .null), (.iinc 3 1, 3, 0, 0, .int 1), (.goto (-35), 4, 0, 0, .null)]
theorem kX4_named_21 : kx_oks kxL_X4 false cX4_named 21 bX4_named_21 = true := by decide +kernel
def bX4_named_42 : List kx_O := [(.iload_n 2, 2, 0, 0, .null), (.ireturn, 0, 0, 0, .null)]
theorem kX4_named_42 : kx_oks kxL_X4 false cX4_named 42 bX4_named_42 = true := by decide +kernel
set_option maxRecDepth 100000 in
set_option maxHeartbeats 4000000 in
theorem ct_X4_named (l : Launch) (G : kx_G) {P : kx_P} {sz : Nat} {F NU : Nat → Int32} {nv : Value} (hO : P 81 = kO 4 (kf (cr4 nv) F)) (hN : P 82 = kI 0 4 NU) {n wd : Nat} (h2 : F 2 = nI n) (hn : n ≤ 4) (hwd : wd < 16)  : kx_M l G sX4_named 1 0 0 [.ref 81, .int (nI wd)] P sz (some (.int (cp_nm NU wd n))) P sz := by
  refine kx_mk kx_tab kxLok_X4 (ini := false) [some (.ref 81), some (.int (nI wd)), none, none] ⟨by decide, rfl, by decide, by decide⟩ (⟨_, rfl⟩) rfl rfl (fun g hB hC => ?_)
  have loop4 : ∀ (n9 k : Nat), k + n9 = n → g 4 [some (.ref 81), some (.int (nI wd)), some (.int (cp_nm NU wd k)), some (.int (nI k))] [] P sz 0 0 := by
    intro n9
    induction n9 with
    | zero =>
      intro k hk
      obtain rfl : k = n := by omega
      refine hB bX4_named_4 _ _ _ _ _ _ _ kX4_named_4 ?_
      dsimp only [bX4_named_4, kx_wp, kx_step, kx_lI, kx_lL, kx_lA, kx_gl, kx_pI, kx_pL, kx_pR, kx_pA, kx_pV, kx_s1, kx_s2, kx_sl, kx_pre, kx_c2, kx_pl, kx_cmp, kx_oF, kx_eqN, kx_nil, kx_c1, kx_ft, kx_aI, kx_aL, kx_aR, kx_ln, Nat.reduceAdd, Option.toList, List.cons_append, List.nil_append, cf4_2, cf4_0]
      repeat (simp only [hO, hN, h2, nI_1, ks_eq, ks_ss]; try dsimp only [kx_wp, kx_step, kx_lI, kx_lL, kx_lA, kx_gl, kx_pI, kx_pL, kx_pR, kx_pA, kx_pV, kx_s1, kx_s2, kx_sl, kx_pre, kx_c2, kx_pl, kx_cmp, kx_oF, kx_eqN, kx_nil, kx_c1, kx_ft, kx_aI, kx_aL, kx_aR, kx_ln, Nat.reduceAdd, Option.toList, List.cons_append, List.nil_append, cf4_2, cf4_0])
      repeat' apply And.intro
      all_goals try (first | with_reducible assumption | (with_reducible refine ck_nzI ?_; simp; done) | (with_reducible refine ck_nzL ?_; simp; done) | (with_reducible refine vp_in_nI ?_ ?_ <;> first | omega | decide) | (with_reducible refine Nat.le_of_ble_eq_true ?_; rfl) | omega | exact Or.inl trivial | exact Or.inr trivial | exact Or.inl rfl | exact Or.inr rfl | exact vp_in_nI (by omega) (by decide))
      · intro zc9
        with_reducible first | have ze9 := Int32.not_lt.mpr zc9 | have ze9 := zc9
        refine hB bX4_named_42 _ _ _ _ _ _ _ kX4_named_42 ?_
        dsimp only [bX4_named_42, kx_wp, kx_step, kx_lI, kx_lL, kx_lA, kx_gl, kx_pI, kx_pL, kx_pR, kx_pA, kx_pV, kx_s1, kx_s2, kx_sl, kx_pre, kx_c2, kx_pl, kx_cmp, kx_oF, kx_eqN, kx_nil, kx_c1, kx_ft, kx_aI, kx_aL, kx_aR, kx_ln, Nat.reduceAdd, Option.toList, List.cons_append, List.nil_append, cf4_2, cf4_0]
        repeat (simp only [hO, hN, h2, nI_1, ks_eq, ks_ss]; try dsimp only [kx_wp, kx_step, kx_lI, kx_lL, kx_lA, kx_gl, kx_pI, kx_pL, kx_pR, kx_pA, kx_pV, kx_s1, kx_s2, kx_sl, kx_pre, kx_c2, kx_pl, kx_cmp, kx_oF, kx_eqN, kx_nil, kx_c1, kx_ft, kx_aI, kx_aL, kx_aR, kx_ln, Nat.reduceAdd, Option.toList, List.cons_append, List.nil_append, cf4_2, cf4_0])
        all_goals (repeat' apply And.intro)
        all_goals ((try clear hB hC); first | exact True.intro | rfl)
      · intro zc9
        first | exact absurd rfl zc9 | exact absurd zc9 (by decide) | exact absurd (by decide) zc9 | (exfalso; first | exact absurd ((nI_leI (a := n) (b := k) (by omega) (by omega)).mp zc9) (by omega) | exact absurd ((nI_leI (a := k) (b := k) (by omega) (by omega)).mpr (by omega)) zc9 | exact absurd ((nI_leI (a := 4) (b := k) (by omega) (by omega)).mp zc18) (by omega)) | (exfalso; simp_all; done)
    | succ n9 ih =>
      intro k hk
      have z3 := ck_bt wd (by omega) k (by omega)
      have c1 : (nI k).toNatClampNeg = k := nI_clamp (by omega)
      refine hB bX4_named_4 _ _ _ _ _ _ _ kX4_named_4 ?_
      dsimp only [bX4_named_4, kx_wp, kx_step, kx_lI, kx_lL, kx_lA, kx_gl, kx_pI, kx_pL, kx_pR, kx_pA, kx_pV, kx_s1, kx_s2, kx_sl, kx_pre, kx_c2, kx_pl, kx_cmp, kx_oF, kx_eqN, kx_nil, kx_c1, kx_ft, kx_aI, kx_aL, kx_aR, kx_ln, Nat.reduceAdd, Option.toList, List.cons_append, List.nil_append, cf4_2, cf4_0]
      repeat (simp only [hO, hN, h2, nI_1, ks_eq, ks_ss, z3, c1]; try dsimp only [kx_wp, kx_step, kx_lI, kx_lL, kx_lA, kx_gl, kx_pI, kx_pL, kx_pR, kx_pA, kx_pV, kx_s1, kx_s2, kx_sl, kx_pre, kx_c2, kx_pl, kx_cmp, kx_oF, kx_eqN, kx_nil, kx_c1, kx_ft, kx_aI, kx_aL, kx_aR, kx_ln, Nat.reduceAdd, Option.toList, List.cons_append, List.nil_append, cf4_2, cf4_0])
      repeat' apply And.intro
      all_goals try (first | with_reducible assumption | (with_reducible refine ck_nzI ?_; simp; done) | (with_reducible refine ck_nzL ?_; simp; done) | (with_reducible refine vp_in_nI ?_ ?_ <;> first | omega | decide) | (with_reducible refine Nat.le_of_ble_eq_true ?_; rfl) | omega | exact Or.inl trivial | exact Or.inr trivial | exact Or.inl rfl | exact Or.inr rfl | exact vp_in_nI (by omega) (by decide))
      · intro zc9
        first | exact absurd rfl zc9 | exact absurd zc9 (by decide) | exact absurd (by decide) zc9 | (exfalso; first | exact absurd ((nI_leI (a := n) (b := k) (by omega) (by omega)).mp zc9) (by omega) | exact absurd ((nI_leI (a := k) (b := k) (by omega) (by omega)).mpr (by omega)) zc9 | exact absurd ((nI_leI (a := 4) (b := k) (by omega) (by omega)).mp zc18) (by omega)) | (exfalso; simp_all; done)
      · intro zc9
        with_reducible first | have ze9 := Int32.not_le.mp zc9 | have ze9 := zc9
        refine hB bX4_named_12 _ _ _ _ _ _ _ kX4_named_12 ?_
        dsimp only [bX4_named_12, kx_wp, kx_step, kx_lI, kx_lL, kx_lA, kx_gl, kx_pI, kx_pL, kx_pR, kx_pA, kx_pV, kx_s1, kx_s2, kx_sl, kx_pre, kx_c2, kx_pl, kx_cmp, kx_oF, kx_eqN, kx_nil, kx_c1, kx_ft, kx_aI, kx_aL, kx_aR, kx_ln, Nat.reduceAdd, Option.toList, List.cons_append, List.nil_append, cf4_2, cf4_0]
        repeat (simp only [hO, hN, h2, nI_1, ks_eq, ks_ss, z3, c1]; try dsimp only [kx_wp, kx_step, kx_lI, kx_lL, kx_lA, kx_gl, kx_pI, kx_pL, kx_pR, kx_pA, kx_pV, kx_s1, kx_s2, kx_sl, kx_pre, kx_c2, kx_pl, kx_cmp, kx_oF, kx_eqN, kx_nil, kx_c1, kx_ft, kx_aI, kx_aL, kx_aR, kx_ln, Nat.reduceAdd, Option.toList, List.cons_append, List.nil_append, cf4_2, cf4_0])
        repeat' apply And.intro
        all_goals try (first | with_reducible assumption | (with_reducible refine ck_nzI ?_; simp; done) | (with_reducible refine ck_nzL ?_; simp; done) | (with_reducible refine vp_in_nI ?_ ?_ <;> first | omega | decide) | (with_reducible refine Nat.le_of_ble_eq_true ?_; rfl) | omega | exact Or.inl trivial | exact Or.inr trivial | exact Or.inl rfl | exact Or.inr rfl | exact vp_in_nI (by omega) (by decide))
        · intro zc18
          first | exact absurd rfl zc18 | exact absurd zc18 (by decide) | exact absurd (by decide) zc18 | (exfalso; first | exact absurd ((nI_leI (a := n) (b := k) (by omega) (by omega)).mp zc9) (by omega) | exact absurd ((nI_leI (a := k) (b := k) (by omega) (by omega)).mpr (by omega)) zc9 | exact absurd ((nI_leI (a := 4) (b := k) (by omega) (by omega)).mp zc18) (by omega)) | (exfalso; simp_all; done)
        · intro zc18
          with_reducible first | have ze18 := Int32.not_le.mp zc18 | have ze18 := zc18
          refine hB bX4_named_21 _ _ _ _ _ _ _ kX4_named_21 ?_
          dsimp only [bX4_named_21, kx_wp, kx_step, kx_lI, kx_lL, kx_lA, kx_gl, kx_pI, kx_pL, kx_pR, kx_pA, kx_pV, kx_s1, kx_s2, kx_sl, kx_pre, kx_c2, kx_pl, kx_cmp, kx_oF, kx_eqN, kx_nil, kx_c1, kx_ft, kx_aI, kx_aL, kx_aR, kx_ln, Nat.reduceAdd, Option.toList, List.cons_append, List.nil_append, cf4_2, cf4_0]
          repeat (simp only [hO, hN, h2, nI_1, ks_eq, ks_ss, z3, c1]; try dsimp only [kx_wp, kx_step, kx_lI, kx_lL, kx_lA, kx_gl, kx_pI, kx_pL, kx_pR, kx_pA, kx_pV, kx_s1, kx_s2, kx_sl, kx_pre, kx_c2, kx_pl, kx_cmp, kx_oF, kx_eqN, kx_nil, kx_c1, kx_ft, kx_aI, kx_aL, kx_aR, kx_ln, Nat.reduceAdd, Option.toList, List.cons_append, List.nil_append, cf4_2, cf4_0])
          repeat' apply And.intro
          all_goals try (first | with_reducible assumption | (with_reducible refine ck_nzI ?_; simp; done) | (with_reducible refine ck_nzL ?_; simp; done) | (with_reducible refine vp_in_nI ?_ ?_ <;> first | omega | decide) | (with_reducible refine Nat.le_of_ble_eq_true ?_; rfl) | omega | exact Or.inl trivial | exact Or.inr trivial | exact Or.inl rfl | exact Or.inr rfl | exact vp_in_nI (by omega) (by decide))
          exact ih (k + 1) (by omega)
  refine hB bX4_named_0 _ _ _ _ _ _ _ kX4_named_0 ?_
  dsimp only [bX4_named_0, kx_wp, kx_step, kx_lI, kx_lL, kx_lA, kx_gl, kx_pI, kx_pL, kx_pR, kx_pA, kx_pV, kx_s1, kx_s2, kx_sl, kx_pre, kx_c2, kx_pl, kx_cmp, kx_oF, kx_eqN, kx_nil, kx_c1, kx_ft, kx_aI, kx_aL, kx_aR, kx_ln, Nat.reduceAdd, Option.toList, List.cons_append, List.nil_append, cf4_2, cf4_0]
  repeat (simp only [hO, hN, h2, nI_1, ks_eq, ks_ss]; try dsimp only [kx_wp, kx_step, kx_lI, kx_lL, kx_lA, kx_gl, kx_pI, kx_pL, kx_pR, kx_pA, kx_pV, kx_s1, kx_s2, kx_sl, kx_pre, kx_c2, kx_pl, kx_cmp, kx_oF, kx_eqN, kx_nil, kx_c1, kx_ft, kx_aI, kx_aL, kx_aR, kx_ln, Nat.reduceAdd, Option.toList, List.cons_append, List.nil_append, cf4_2, cf4_0])
  repeat' apply And.intro
  all_goals try (first | with_reducible assumption | (with_reducible refine ck_nzI ?_; simp; done) | (with_reducible refine ck_nzL ?_; simp; done) | (with_reducible refine vp_in_nI ?_ ?_ <;> first | omega | decide) | (with_reducible refine Nat.le_of_ble_eq_true ?_; rfl) | omega | exact Or.inl trivial | exact Or.inr trivial | exact Or.inl rfl | exact Or.inr rfl | exact vp_in_nI (by omega) (by decide))
  exact loop4 n 0 (by omega)

def bX4_firstBest_0 : List kx_O := [(.aload_n 0, 0, 0, 0, .null), (.iload_n 1, 1, 0, 0, .null), (.iload_n 2, 2, 0, 0, .null)]
theorem kX4_firstBest_0 : kx_oks kxL_X4 false cX4_firstBest 0 bX4_firstBest_0 = true := by decide +kernel
def bX4_firstBest_6 : List kx_O := [(.istore_n 3, 3, 0, 0, .null), (.iconst 0, 0, 0, 0, .int 0), (.istore 4, 4, 0, 0, .null)]
theorem kX4_firstBest_6 : kx_oks kxL_X4 false cX4_firstBest 6 bX4_firstBest_6 = true := by decide +kernel
def bX4_firstBest_10 : List kx_O := [(.iload 4, 4, 0, 0, .null), (.iconst 1, 0, 0, 0, .int 1), (.aload_n 0, 0, 0, 0, .null), (.getfield 18, 4, 2, 0, .null), (.ishl, 0, 0, 0, .null), (.if_icmp .ge 47, 65, 0, 0, .null)]
theorem kX4_firstBest_10 : kx_oks kxL_X4 false cX4_firstBest 10 bX4_firstBest_10 = true := by decide +kernel
def bX4_firstBest_21 : List kx_O := [(.aload_n 0, 0, 0, 0, .null), (.iload_n 1, 1, 0, 0, .null), (.iload_n 2, 2, 0, 0, .null), (.iload 4, 4, 0, 0, .null)]
theorem kX4_firstBest_21 : kx_oks kxL_X4 false cX4_firstBest 21 bX4_firstBest_21 = true := by decide +kernel
def bX4_firstBest_29 : List kx_O := [(.istore 5, 5, 0, 0, .null), (.iload 5, 5, 0, 0, .null), (.iconst (-1), 0, 0, 0, .int (-1)), (.if_icmp .eq 25, 59, 0, 0, .null)]
theorem kX4_firstBest_29 : kx_oks kxL_X4 false cX4_firstBest 29 bX4_firstBest_29 = true := by decide +kernel
def bX4_firstBest_37 : List kx_O := [(.iload 4, 4, 0, 0, .null)]
theorem kX4_firstBest_37 : kx_oks kxL_X4 false cX4_firstBest 37 bX4_firstBest_37 = true := by decide +kernel
def bX4_firstBest_42 : List kx_O := [(.aload_n 0, 0, 0, 0, .null), (.iload_n 1, 1, 0, 0, .null), (.iconst 1, 0, 0, 0, .int 1), (.iadd, 0, 0, 0, .null), (.iload 5, 5, 0, 0, .null)]
theorem kX4_firstBest_42 : kx_oks kxL_X4 false cX4_firstBest 42 bX4_firstBest_42 = true := by decide +kernel
def bX4_firstBest_51 : List kx_O := [(.iadd, 0, 0, 0, .null), (.iload_n 3, 3, 0, 0, .null), (.if_icmp .ne 6, 59, 0, 0, .null)]
theorem kX4_firstBest_51 : kx_oks kxL_X4 false cX4_firstBest 51 bX4_firstBest_51 = true := by decide +kernel
def bX4_firstBest_56 : List kx_O := [(.iload 4, 4, 0, 0, .null), (.ireturn, 0, 0, 0, .null)]
theorem kX4_firstBest_56 : kx_oks kxL_X4 false cX4_firstBest 56 bX4_firstBest_56 = true := by decide +kernel
def bX4_firstBest_59 : List kx_O := [(.iinc 4 1, 4, 0, 0, .int 1), (.goto (-52), 10, 0, 0, .null)]
theorem kX4_firstBest_59 : kx_oks kxL_X4 false cX4_firstBest 59 bX4_firstBest_59 = true := by decide +kernel
def bX4_firstBest_65 : List kx_O := [(.iconst 0, 0, 0, 0, .int 0), (.ireturn, 0, 0, 0, .null)]
theorem kX4_firstBest_65 : kx_oks kxL_X4 false cX4_firstBest 65 bX4_firstBest_65 = true := by decide +kernel
theorem dX4_firstBest_3 : decode cX4_firstBest 3 = .ok (.invokevirtual 62, 3) := by decide +kernel
theorem dX4_firstBest_26 : decode cX4_firstBest 26 = .ok (.invokevirtual 72, 3) := by decide +kernel
theorem dX4_firstBest_39 : decode cX4_firstBest 39 = .ok (.invokestatic 80, 3) := by decide +kernel
theorem dX4_firstBest_48 : decode cX4_firstBest 48 = .ok (.invokevirtual 62, 3) := by decide +kernel
set_option maxRecDepth 100000 in
set_option maxHeartbeats 4000000 in
theorem ct_X4_firstBest (l : Launch) (G : kx_G) {P : kx_P} {sz : Nat} {nt : Nat} {F WS N : Nat → Int32} {ws : Nat → Nat} {n days many se : Nat} (hp : cp_H P nt F WS N ws n days many) (hF : F 7 = nI se) (hse : se ≤ 1000) (hv : cp_nv ws n many days se N) {q tm now : Nat} (htm : tm + (q + 1) = days) (ho : cp_ok n (q + 1) now)  : kx_Mn l G sX4_firstBest 25 0 0 [.ref 81, .int (nI tm), .int (nI now)] P sz (fun rr P2 s2 => rr = some (.int (nI (cp_fb ws n many q now))) ∧ (∃ N2, P2 = kx_set P nt (kI 0 39973 N2) ∧ cp_nv ws n many days se N2) ∧ sz = s2) := by
  have hp0 := hp
  obtain ⟨p1, p2, p3, p4, p5, p6, p7, p8, p9, pa, pb, pc⟩ := hp
  have n81 : ¬ 81 = nt := by omega
  have n82 : ¬ 82 = nt := by omega
  have er : days - tm - 1 = q := by omega
  have hnow := cp_ok_lt p7 ho
  have z1 := cp_1n n p7
  have z2 := cp_2n n p7
  have zg := cp_fw_le ws n many (q + 1) now
  refine kx_mkn kx_tab kxLok_X4 (ini := false) [some (.ref 81), some (.int (nI tm)), some (.int (nI now)), none, none, none] ⟨by decide, rfl, by decide, by decide⟩ (fun _ _ _ h => ⟨_, h.1⟩) rfl rfl (fun g hB hC hN => ?_)
  have loop10 : ∀ (n9 k : Nat) (N9 : Nat → Int32) (x9 : Option Value), k + n9 = 2 ^ n → cp_nv ws n many days se N9 → cp_fs (fun w => cp_nx ws n many q now w) (cp_fw ws n many q) (cp_fw ws n many (q + 1) now) (n9) (k) = cp_fb ws n many q now → g 10 [some (.ref 81), some (.int (nI tm)), some (.int (nI now)), some (.int (nI (cp_fw ws n many (q + 1) now))), some (.int (nI k)), x9] [] (kx_set P nt (kI 0 39973 N9)) sz 0 0 := by
    intro n9
    induction n9 with
    | zero =>
      intro k N9 x9 hk hv9 he
      obtain rfl : 2 ^ n = k := by omega
      rw [cp_fs] at he
      refine hB bX4_firstBest_10 _ _ _ _ _ _ _ kX4_firstBest_10 ?_
      dsimp only [bX4_firstBest_10, kx_wp, kx_step, kx_lI, kx_lL, kx_lA, kx_gl, kx_pI, kx_pL, kx_pR, kx_pA, kx_pV, kx_s1, kx_s2, kx_sl, kx_pre, kx_c2, kx_pl, kx_cmp, kx_oF, kx_eqN, kx_nil, kx_c1, kx_ft, kx_aI, kx_aL, kx_aR, kx_ln, Nat.reduceAdd, Option.toList, List.cons_append, List.nil_append, cf4_2]
      repeat (simp only [p1, p2, p3, p4, p6, p8, pa, hF, ks_ne n81, ks_ne n82, nI_1, z1, ks_eq, ks_ss]; try dsimp only [kx_wp, kx_step, kx_lI, kx_lL, kx_lA, kx_gl, kx_pI, kx_pL, kx_pR, kx_pA, kx_pV, kx_s1, kx_s2, kx_sl, kx_pre, kx_c2, kx_pl, kx_cmp, kx_oF, kx_eqN, kx_nil, kx_c1, kx_ft, kx_aI, kx_aL, kx_aR, kx_ln, Nat.reduceAdd, Option.toList, List.cons_append, List.nil_append, cf4_2])
      repeat' apply And.intro
      all_goals try (first | with_reducible assumption | (with_reducible refine ck_nzI ?_; simp; done) | (with_reducible refine ck_nzL ?_; simp; done) | (with_reducible refine vp_in_nI ?_ ?_ <;> first | omega | decide) | (with_reducible refine Nat.le_of_ble_eq_true ?_; rfl) | omega | exact Or.inl trivial | exact Or.inr trivial | exact Or.inl rfl | exact Or.inr rfl)
      · intro zc18
        with_reducible first | have ze18 := Int32.not_lt.mpr zc18 | have ze18 := zc18
        refine hB bX4_firstBest_65 _ _ _ _ _ _ _ kX4_firstBest_65 ?_
        dsimp only [bX4_firstBest_65, kx_wp, kx_step, kx_lI, kx_lL, kx_lA, kx_gl, kx_pI, kx_pL, kx_pR, kx_pA, kx_pV, kx_s1, kx_s2, kx_sl, kx_pre, kx_c2, kx_pl, kx_cmp, kx_oF, kx_eqN, kx_nil, kx_c1, kx_ft, kx_aI, kx_aL, kx_aR, kx_ln, Nat.reduceAdd, Option.toList, List.cons_append, List.nil_append, cf4_2]
        repeat (simp only [p1, p2, p3, p4, p6, p8, pa, hF, ks_ne n81, ks_ne n82, nI_1, z1, ks_eq, ks_ss]; try dsimp only [kx_wp, kx_step, kx_lI, kx_lL, kx_lA, kx_gl, kx_pI, kx_pL, kx_pR, kx_pA, kx_pV, kx_s1, kx_s2, kx_sl, kx_pre, kx_c2, kx_pl, kx_cmp, kx_oF, kx_eqN, kx_nil, kx_c1, kx_ft, kx_aI, kx_aL, kx_aR, kx_ln, Nat.reduceAdd, Option.toList, List.cons_append, List.nil_append, cf4_2])
        all_goals (repeat' apply And.intro)
        all_goals ((try clear hB hC); first | exact True.intro | exact ⟨N9, rfl, hv9⟩ | exact ⟨N2, rfl, hv2⟩ | (rw [← he]; rfl) | (rw [← he]) | trace_state)
      · intro zc18
        first | exact absurd rfl zc18 | exact absurd zc18 (by decide) | exact absurd (by decide) zc18 | (exfalso; first | exact absurd ((nI_leI (a := 2 ^ n) (b := 2 ^ n) (by omega) (by omega)).mpr (by omega)) zc18 | exact absurd ((nI_leI (a := 2 ^ n) (b := k) (by omega) (by omega)).mp zc18) (by omega) | exact zc34 hnx | exact hnx zc34 | exact hnx (by rw [e1]; exact zc34) | exact zc53 heq | exact zc53 (fun e => heq e) | exact heq zc53) | (exfalso; simp_all; done)
    | succ n9 ih =>
      intro k N9 x9 hk hv9 he
      have zb := cj_bc_n k (by omega)
      have zp := ck_pc_le k (by omega)
      rw [cp_fs] at he
      rcases hs : cp_nx ws n many q now k with _ | v
      · have hnx : cp_oi (cp_nx ws n many q now k) = -1 := by rw [hs]; rfl
        simp only [hs] at he
        refine hB bX4_firstBest_10 _ _ _ _ _ _ _ kX4_firstBest_10 ?_
        dsimp only [bX4_firstBest_10, kx_wp, kx_step, kx_lI, kx_lL, kx_lA, kx_gl, kx_pI, kx_pL, kx_pR, kx_pA, kx_pV, kx_s1, kx_s2, kx_sl, kx_pre, kx_c2, kx_pl, kx_cmp, kx_oF, kx_eqN, kx_nil, kx_c1, kx_ft, kx_aI, kx_aL, kx_aR, kx_ln, Nat.reduceAdd, Option.toList, List.cons_append, List.nil_append, cf4_2]
        repeat (simp only [p1, p2, p3, p4, p6, p8, pa, hF, ks_ne n81, ks_ne n82, nI_1, z1, ks_eq, ks_ss, zb]; try dsimp only [kx_wp, kx_step, kx_lI, kx_lL, kx_lA, kx_gl, kx_pI, kx_pL, kx_pR, kx_pA, kx_pV, kx_s1, kx_s2, kx_sl, kx_pre, kx_c2, kx_pl, kx_cmp, kx_oF, kx_eqN, kx_nil, kx_c1, kx_ft, kx_aI, kx_aL, kx_aR, kx_ln, Nat.reduceAdd, Option.toList, List.cons_append, List.nil_append, cf4_2])
        repeat' apply And.intro
        all_goals try (first | with_reducible assumption | (with_reducible refine ck_nzI ?_; simp; done) | (with_reducible refine ck_nzL ?_; simp; done) | (with_reducible refine vp_in_nI ?_ ?_ <;> first | omega | decide) | (with_reducible refine Nat.le_of_ble_eq_true ?_; rfl) | omega | exact Or.inl trivial | exact Or.inr trivial | exact Or.inl rfl | exact Or.inr rfl)
        · intro zc18
          first | exact absurd rfl zc18 | exact absurd zc18 (by decide) | exact absurd (by decide) zc18 | (exfalso; first | exact absurd ((nI_leI (a := 2 ^ n) (b := 2 ^ n) (by omega) (by omega)).mpr (by omega)) zc18 | exact absurd ((nI_leI (a := 2 ^ n) (b := k) (by omega) (by omega)).mp zc18) (by omega) | exact zc34 hnx | exact hnx zc34 | exact hnx (by rw [e1]; exact zc34) | exact zc53 heq | exact zc53 (fun e => heq e) | exact heq zc53) | (exfalso; simp_all; done)
        · intro zc18
          with_reducible first | have ze18 := Int32.not_le.mp zc18 | have ze18 := zc18
          refine hB bX4_firstBest_21 _ _ _ _ _ _ _ kX4_firstBest_21 ?_
          dsimp only [bX4_firstBest_21, kx_wp, kx_step, kx_lI, kx_lL, kx_lA, kx_gl, kx_pI, kx_pL, kx_pR, kx_pA, kx_pV, kx_s1, kx_s2, kx_sl, kx_pre, kx_c2, kx_pl, kx_cmp, kx_oF, kx_eqN, kx_nil, kx_c1, kx_ft, kx_aI, kx_aL, kx_aR, kx_ln, Nat.reduceAdd, Option.toList, List.cons_append, List.nil_append, cf4_2]
          repeat (simp only [p1, p2, p3, p4, p6, p8, pa, hF, ks_ne n81, ks_ne n82, nI_1, z1, ks_eq, ks_ss, zb]; try dsimp only [kx_wp, kx_step, kx_lI, kx_lL, kx_lA, kx_gl, kx_pI, kx_pL, kx_pR, kx_pA, kx_pV, kx_s1, kx_s2, kx_sl, kx_pre, kx_c2, kx_pl, kx_cmp, kx_oF, kx_eqN, kx_nil, kx_c1, kx_ft, kx_aI, kx_aL, kx_aR, kx_ln, Nat.reduceAdd, Option.toList, List.cons_append, List.nil_append, cf4_2])
          repeat' apply And.intro
          all_goals try (first | with_reducible assumption | (with_reducible refine ck_nzI ?_; simp; done) | (with_reducible refine ck_nzL ?_; simp; done) | (with_reducible refine vp_in_nI ?_ ?_ <;> first | omega | decide) | (with_reducible refine Nat.le_of_ble_eq_true ?_; rfl) | omega | exact Or.inl trivial | exact Or.inr trivial | exact Or.inl rfl | exact Or.inr rfl)
          refine hC.1 72 _ _ _ _ _ _ _ 4 _ _ _ _ _ _ _ _ _ _ _ _ lX4_72 (ct_X4_stateBehind l G (hp0.set (N2 := N9)) (by omega) hnow (by omega)) ⟨by decide, rfl⟩ (by rw [ks_ne n81]; exact p1) rfl rfl (Nat.le_of_ble_eq_true rfl) (by first | decide | omega) (by decide) (by omega) (by omega) dX4_firstBest_26 ?_
          rw [er]
          refine hB bX4_firstBest_29 _ _ _ _ _ _ _ kX4_firstBest_29 ?_
          dsimp only [bX4_firstBest_29, kx_wp, kx_step, kx_lI, kx_lL, kx_lA, kx_gl, kx_pI, kx_pL, kx_pR, kx_pA, kx_pV, kx_s1, kx_s2, kx_sl, kx_pre, kx_c2, kx_pl, kx_cmp, kx_oF, kx_eqN, kx_nil, kx_c1, kx_ft, kx_aI, kx_aL, kx_aR, kx_ln, Nat.reduceAdd, Option.toList, List.cons_append, List.nil_append, cf4_2]
          repeat (simp only [p1, p2, p3, p4, p6, p8, pa, hF, ks_ne n81, ks_ne n82, nI_1, z1, ks_eq, ks_ss, zb]; try dsimp only [kx_wp, kx_step, kx_lI, kx_lL, kx_lA, kx_gl, kx_pI, kx_pL, kx_pR, kx_pA, kx_pV, kx_s1, kx_s2, kx_sl, kx_pre, kx_c2, kx_pl, kx_cmp, kx_oF, kx_eqN, kx_nil, kx_c1, kx_ft, kx_aI, kx_aL, kx_aR, kx_ln, Nat.reduceAdd, Option.toList, List.cons_append, List.nil_append, cf4_2])
          repeat' apply And.intro
          all_goals try (first | with_reducible assumption | (with_reducible refine ck_nzI ?_; simp; done) | (with_reducible refine ck_nzL ?_; simp; done) | (with_reducible refine vp_in_nI ?_ ?_ <;> first | omega | decide) | (with_reducible refine Nat.le_of_ble_eq_true ?_; rfl) | omega | exact Or.inl trivial | exact Or.inr trivial | exact Or.inl rfl | exact Or.inr rfl)
          · intro zc34
            have ze34 := zc34
            refine hB bX4_firstBest_59 _ _ _ _ _ _ _ kX4_firstBest_59 ?_
            dsimp only [bX4_firstBest_59, kx_wp, kx_step, kx_lI, kx_lL, kx_lA, kx_gl, kx_pI, kx_pL, kx_pR, kx_pA, kx_pV, kx_s1, kx_s2, kx_sl, kx_pre, kx_c2, kx_pl, kx_cmp, kx_oF, kx_eqN, kx_nil, kx_c1, kx_ft, kx_aI, kx_aL, kx_aR, kx_ln, Nat.reduceAdd, Option.toList, List.cons_append, List.nil_append, cf4_2]
            repeat (simp only [p1, p2, p3, p4, p6, p8, pa, hF, ks_ne n81, ks_ne n82, nI_1, z1, ks_eq, ks_ss, zb]; try dsimp only [kx_wp, kx_step, kx_lI, kx_lL, kx_lA, kx_gl, kx_pI, kx_pL, kx_pR, kx_pA, kx_pV, kx_s1, kx_s2, kx_sl, kx_pre, kx_c2, kx_pl, kx_cmp, kx_oF, kx_eqN, kx_nil, kx_c1, kx_ft, kx_aI, kx_aL, kx_aR, kx_ln, Nat.reduceAdd, Option.toList, List.cons_append, List.nil_append, cf4_2])
            repeat' apply And.intro
            all_goals try (first | with_reducible assumption | (with_reducible refine ck_nzI ?_; simp; done) | (with_reducible refine ck_nzL ?_; simp; done) | (with_reducible refine vp_in_nI ?_ ?_ <;> first | omega | decide) | (with_reducible refine Nat.le_of_ble_eq_true ?_; rfl) | omega | exact Or.inl trivial | exact Or.inr trivial | exact Or.inl rfl | exact Or.inr rfl)
            exact ih (k + 1) _ _ (by omega) hv9 he
          · intro zc34
            first | exact absurd rfl zc34 | exact absurd zc34 (by decide) | exact absurd (by decide) zc34 | (exfalso; first | exact absurd ((nI_leI (a := 2 ^ n) (b := 2 ^ n) (by omega) (by omega)).mpr (by omega)) zc18 | exact absurd ((nI_leI (a := 2 ^ n) (b := k) (by omega) (by omega)).mp zc18) (by omega) | exact zc34 hnx | exact hnx zc34 | exact hnx (by rw [e1]; exact zc34) | exact zc53 heq | exact zc53 (fun e => heq e) | exact heq zc53) | (exfalso; simp_all; done)
      · have hv3 := cp_nx_ok (by omega) hs
        have hv4 := cp_ok_lt p7 hv3
        have hnx : ¬ cp_oi (cp_nx ws n many q now k) = -1 := by rw [hs]; exact cp_oi_n v (by omega)
        have e1 : cp_oi (cp_nx ws n many q now k) = nI v := by rw [hs]; rfl
        have zf := cp_fw_le ws n many q v
        have y1 := nI_add (ck_pc k) (cp_fw ws n many q v)
        simp only [hs] at he
        by_cases heq : nI (ck_pc k + cp_fw ws n many q v) = nI (cp_fw ws n many (q + 1) now)
        · rw [if_pos ((nI_eq (by omega) (by omega)).mp heq)] at he
          refine hB bX4_firstBest_10 _ _ _ _ _ _ _ kX4_firstBest_10 ?_
          dsimp only [bX4_firstBest_10, kx_wp, kx_step, kx_lI, kx_lL, kx_lA, kx_gl, kx_pI, kx_pL, kx_pR, kx_pA, kx_pV, kx_s1, kx_s2, kx_sl, kx_pre, kx_c2, kx_pl, kx_cmp, kx_oF, kx_eqN, kx_nil, kx_c1, kx_ft, kx_aI, kx_aL, kx_aR, kx_ln, Nat.reduceAdd, Option.toList, List.cons_append, List.nil_append, cf4_2]
          repeat (simp only [p1, p2, p3, p4, p6, p8, pa, hF, ks_ne n81, ks_ne n82, nI_1, z1, ks_eq, ks_ss, zb, e1, y1]; try dsimp only [kx_wp, kx_step, kx_lI, kx_lL, kx_lA, kx_gl, kx_pI, kx_pL, kx_pR, kx_pA, kx_pV, kx_s1, kx_s2, kx_sl, kx_pre, kx_c2, kx_pl, kx_cmp, kx_oF, kx_eqN, kx_nil, kx_c1, kx_ft, kx_aI, kx_aL, kx_aR, kx_ln, Nat.reduceAdd, Option.toList, List.cons_append, List.nil_append, cf4_2])
          repeat' apply And.intro
          all_goals try (first | with_reducible assumption | (with_reducible refine ck_nzI ?_; simp; done) | (with_reducible refine ck_nzL ?_; simp; done) | (with_reducible refine vp_in_nI ?_ ?_ <;> first | omega | decide) | (with_reducible refine Nat.le_of_ble_eq_true ?_; rfl) | omega | exact Or.inl trivial | exact Or.inr trivial | exact Or.inl rfl | exact Or.inr rfl)
          · intro zc18
            first | exact absurd rfl zc18 | exact absurd zc18 (by decide) | exact absurd (by decide) zc18 | (exfalso; first | exact absurd ((nI_leI (a := 2 ^ n) (b := 2 ^ n) (by omega) (by omega)).mpr (by omega)) zc18 | exact absurd ((nI_leI (a := 2 ^ n) (b := k) (by omega) (by omega)).mp zc18) (by omega) | exact zc34 hnx | exact hnx zc34 | exact hnx (by rw [e1]; exact zc34) | exact zc53 heq | exact zc53 (fun e => heq e) | exact heq zc53) | (exfalso; simp_all; done)
          · intro zc18
            with_reducible first | have ze18 := Int32.not_le.mp zc18 | have ze18 := zc18
            refine hB bX4_firstBest_21 _ _ _ _ _ _ _ kX4_firstBest_21 ?_
            dsimp only [bX4_firstBest_21, kx_wp, kx_step, kx_lI, kx_lL, kx_lA, kx_gl, kx_pI, kx_pL, kx_pR, kx_pA, kx_pV, kx_s1, kx_s2, kx_sl, kx_pre, kx_c2, kx_pl, kx_cmp, kx_oF, kx_eqN, kx_nil, kx_c1, kx_ft, kx_aI, kx_aL, kx_aR, kx_ln, Nat.reduceAdd, Option.toList, List.cons_append, List.nil_append, cf4_2]
            repeat (simp only [p1, p2, p3, p4, p6, p8, pa, hF, ks_ne n81, ks_ne n82, nI_1, z1, ks_eq, ks_ss, zb, e1, y1]; try dsimp only [kx_wp, kx_step, kx_lI, kx_lL, kx_lA, kx_gl, kx_pI, kx_pL, kx_pR, kx_pA, kx_pV, kx_s1, kx_s2, kx_sl, kx_pre, kx_c2, kx_pl, kx_cmp, kx_oF, kx_eqN, kx_nil, kx_c1, kx_ft, kx_aI, kx_aL, kx_aR, kx_ln, Nat.reduceAdd, Option.toList, List.cons_append, List.nil_append, cf4_2])
            repeat' apply And.intro
            all_goals try (first | with_reducible assumption | (with_reducible refine ck_nzI ?_; simp; done) | (with_reducible refine ck_nzL ?_; simp; done) | (with_reducible refine vp_in_nI ?_ ?_ <;> first | omega | decide) | (with_reducible refine Nat.le_of_ble_eq_true ?_; rfl) | omega | exact Or.inl trivial | exact Or.inr trivial | exact Or.inl rfl | exact Or.inr rfl)
            refine hC.1 72 _ _ _ _ _ _ _ 4 _ _ _ _ _ _ _ _ _ _ _ _ lX4_72 (ct_X4_stateBehind l G (hp0.set (N2 := N9)) (by omega) hnow (by omega)) ⟨by decide, rfl⟩ (by rw [ks_ne n81]; exact p1) rfl rfl (Nat.le_of_ble_eq_true rfl) (by first | decide | omega) (by decide) (by omega) (by omega) dX4_firstBest_26 ?_
            rw [er]
            refine hB bX4_firstBest_29 _ _ _ _ _ _ _ kX4_firstBest_29 ?_
            dsimp only [bX4_firstBest_29, kx_wp, kx_step, kx_lI, kx_lL, kx_lA, kx_gl, kx_pI, kx_pL, kx_pR, kx_pA, kx_pV, kx_s1, kx_s2, kx_sl, kx_pre, kx_c2, kx_pl, kx_cmp, kx_oF, kx_eqN, kx_nil, kx_c1, kx_ft, kx_aI, kx_aL, kx_aR, kx_ln, Nat.reduceAdd, Option.toList, List.cons_append, List.nil_append, cf4_2]
            repeat (simp only [p1, p2, p3, p4, p6, p8, pa, hF, ks_ne n81, ks_ne n82, nI_1, z1, ks_eq, ks_ss, zb, e1, y1]; try dsimp only [kx_wp, kx_step, kx_lI, kx_lL, kx_lA, kx_gl, kx_pI, kx_pL, kx_pR, kx_pA, kx_pV, kx_s1, kx_s2, kx_sl, kx_pre, kx_c2, kx_pl, kx_cmp, kx_oF, kx_eqN, kx_nil, kx_c1, kx_ft, kx_aI, kx_aL, kx_aR, kx_ln, Nat.reduceAdd, Option.toList, List.cons_append, List.nil_append, cf4_2])
            repeat' apply And.intro
            all_goals try (first | with_reducible assumption | (with_reducible refine ck_nzI ?_; simp; done) | (with_reducible refine ck_nzL ?_; simp; done) | (with_reducible refine vp_in_nI ?_ ?_ <;> first | omega | decide) | (with_reducible refine Nat.le_of_ble_eq_true ?_; rfl) | omega | exact Or.inl trivial | exact Or.inr trivial | exact Or.inl rfl | exact Or.inr rfl)
            · intro zc34
              first | exact absurd rfl zc34 | exact absurd zc34 (by decide) | exact absurd (by decide) zc34 | (exfalso; first | exact absurd ((nI_leI (a := 2 ^ n) (b := 2 ^ n) (by omega) (by omega)).mpr (by omega)) zc18 | exact absurd ((nI_leI (a := 2 ^ n) (b := k) (by omega) (by omega)).mp zc18) (by omega) | exact zc34 hnx | exact hnx zc34 | exact hnx (by rw [e1]; exact zc34) | exact zc53 heq | exact zc53 (fun e => heq e) | exact heq zc53) | (exfalso; simp_all; done)
            · intro zc34
              have ze34 := zc34
              refine hB bX4_firstBest_37 _ _ _ _ _ _ _ kX4_firstBest_37 ?_
              dsimp only [bX4_firstBest_37, kx_wp, kx_step, kx_lI, kx_lL, kx_lA, kx_gl, kx_pI, kx_pL, kx_pR, kx_pA, kx_pV, kx_s1, kx_s2, kx_sl, kx_pre, kx_c2, kx_pl, kx_cmp, kx_oF, kx_eqN, kx_nil, kx_c1, kx_ft, kx_aI, kx_aL, kx_aR, kx_ln, Nat.reduceAdd, Option.toList, List.cons_append, List.nil_append, cf4_2]
              repeat (simp only [p1, p2, p3, p4, p6, p8, pa, hF, ks_ne n81, ks_ne n82, nI_1, z1, ks_eq, ks_ss, zb, e1, y1]; try dsimp only [kx_wp, kx_step, kx_lI, kx_lL, kx_lA, kx_gl, kx_pI, kx_pL, kx_pR, kx_pA, kx_pV, kx_s1, kx_s2, kx_sl, kx_pre, kx_c2, kx_pl, kx_cmp, kx_oF, kx_eqN, kx_nil, kx_c1, kx_ft, kx_aI, kx_aL, kx_aR, kx_ln, Nat.reduceAdd, Option.toList, List.cons_append, List.nil_append, cf4_2])
              repeat' apply And.intro
              all_goals try (first | with_reducible assumption | (with_reducible refine ck_nzI ?_; simp; done) | (with_reducible refine ck_nzL ?_; simp; done) | (with_reducible refine vp_in_nI ?_ ?_ <;> first | omega | decide) | (with_reducible refine Nat.le_of_ble_eq_true ?_; rfl) | omega | exact Or.inl trivial | exact Or.inr trivial | exact Or.inl rfl | exact Or.inr rfl)
              refine hC.2.1 80 _ _ _ _ _ _ _ _ _ _ _ _ _ _ _ _ _ lX4_80 (ct_J6_bitCount_0f7a4 l G) rfl rfl (Nat.le_of_ble_eq_true rfl) (by first | decide | omega) (by decide) (by omega) (by omega) dX4_firstBest_39 ?_
              refine hB bX4_firstBest_42 _ _ _ _ _ _ _ kX4_firstBest_42 ?_
              dsimp only [bX4_firstBest_42, kx_wp, kx_step, kx_lI, kx_lL, kx_lA, kx_gl, kx_pI, kx_pL, kx_pR, kx_pA, kx_pV, kx_s1, kx_s2, kx_sl, kx_pre, kx_c2, kx_pl, kx_cmp, kx_oF, kx_eqN, kx_nil, kx_c1, kx_ft, kx_aI, kx_aL, kx_aR, kx_ln, Nat.reduceAdd, Option.toList, List.cons_append, List.nil_append, cf4_2]
              repeat (simp only [p1, p2, p3, p4, p6, p8, pa, hF, ks_ne n81, ks_ne n82, nI_1, z1, ks_eq, ks_ss, zb, e1, y1]; try dsimp only [kx_wp, kx_step, kx_lI, kx_lL, kx_lA, kx_gl, kx_pI, kx_pL, kx_pR, kx_pA, kx_pV, kx_s1, kx_s2, kx_sl, kx_pre, kx_c2, kx_pl, kx_cmp, kx_oF, kx_eqN, kx_nil, kx_c1, kx_ft, kx_aI, kx_aL, kx_aR, kx_ln, Nat.reduceAdd, Option.toList, List.cons_append, List.nil_append, cf4_2])
              repeat' apply And.intro
              all_goals try (first | with_reducible assumption | (with_reducible refine ck_nzI ?_; simp; done) | (with_reducible refine ck_nzL ?_; simp; done) | (with_reducible refine vp_in_nI ?_ ?_ <;> first | omega | decide) | (with_reducible refine Nat.le_of_ble_eq_true ?_; rfl) | omega | exact Or.inl trivial | exact Or.inr trivial | exact Or.inl rfl | exact Or.inr rfl)
              refine hN.1 62 _ _ _ _ _ _ _ 4 _ _ _ _ _ _ _ _ _ _ lX4_62 (ct_X4_fewest l G hF hse q _ N9 (tm + 1) v (hp0.set (N2 := N9)) hv9 (by omega) (cp_nx_ok (by omega) hs)) ⟨by decide, rfl⟩ (by rw [ks_ne n81]; exact p1) rfl rfl (Nat.le_of_ble_eq_true rfl) (by omega) (by decide) (by omega) (by omega) dX4_firstBest_48 ?_
              rintro r2 P2 s2 ⟨rfl, ⟨N2, rfl, hv2⟩, rfl⟩
              rw [ks_ss]
              refine hB bX4_firstBest_51 _ _ _ _ _ _ _ kX4_firstBest_51 ?_
              dsimp only [bX4_firstBest_51, kx_wp, kx_step, kx_lI, kx_lL, kx_lA, kx_gl, kx_pI, kx_pL, kx_pR, kx_pA, kx_pV, kx_s1, kx_s2, kx_sl, kx_pre, kx_c2, kx_pl, kx_cmp, kx_oF, kx_eqN, kx_nil, kx_c1, kx_ft, kx_aI, kx_aL, kx_aR, kx_ln, Nat.reduceAdd, Option.toList, List.cons_append, List.nil_append, cf4_2]
              repeat (simp only [p1, p2, p3, p4, p6, p8, pa, hF, ks_ne n81, ks_ne n82, nI_1, z1, ks_eq, ks_ss, zb, e1, y1]; try dsimp only [kx_wp, kx_step, kx_lI, kx_lL, kx_lA, kx_gl, kx_pI, kx_pL, kx_pR, kx_pA, kx_pV, kx_s1, kx_s2, kx_sl, kx_pre, kx_c2, kx_pl, kx_cmp, kx_oF, kx_eqN, kx_nil, kx_c1, kx_ft, kx_aI, kx_aL, kx_aR, kx_ln, Nat.reduceAdd, Option.toList, List.cons_append, List.nil_append, cf4_2])
              repeat' apply And.intro
              all_goals try (first | with_reducible assumption | (with_reducible refine ck_nzI ?_; simp; done) | (with_reducible refine ck_nzL ?_; simp; done) | (with_reducible refine vp_in_nI ?_ ?_ <;> first | omega | decide) | (with_reducible refine Nat.le_of_ble_eq_true ?_; rfl) | omega | exact Or.inl trivial | exact Or.inr trivial | exact Or.inl rfl | exact Or.inr rfl)
              · intro zc53
                first | exact absurd rfl zc53 | exact absurd zc53 (by decide) | exact absurd (by decide) zc53 | (exfalso; first | exact absurd ((nI_leI (a := 2 ^ n) (b := 2 ^ n) (by omega) (by omega)).mpr (by omega)) zc18 | exact absurd ((nI_leI (a := 2 ^ n) (b := k) (by omega) (by omega)).mp zc18) (by omega) | exact zc34 hnx | exact hnx zc34 | exact hnx (by rw [e1]; exact zc34) | exact zc53 heq | exact zc53 (fun e => heq e) | exact heq zc53) | (exfalso; simp_all; done)
              · intro zc53
                with_reducible first | have ze53 := Decidable.not_not.mp zc53 | have ze53 := zc53
                refine hB bX4_firstBest_56 _ _ _ _ _ _ _ kX4_firstBest_56 ?_
                dsimp only [bX4_firstBest_56, kx_wp, kx_step, kx_lI, kx_lL, kx_lA, kx_gl, kx_pI, kx_pL, kx_pR, kx_pA, kx_pV, kx_s1, kx_s2, kx_sl, kx_pre, kx_c2, kx_pl, kx_cmp, kx_oF, kx_eqN, kx_nil, kx_c1, kx_ft, kx_aI, kx_aL, kx_aR, kx_ln, Nat.reduceAdd, Option.toList, List.cons_append, List.nil_append, cf4_2]
                repeat (simp only [p1, p2, p3, p4, p6, p8, pa, hF, ks_ne n81, ks_ne n82, nI_1, z1, ks_eq, ks_ss, zb, e1, y1]; try dsimp only [kx_wp, kx_step, kx_lI, kx_lL, kx_lA, kx_gl, kx_pI, kx_pL, kx_pR, kx_pA, kx_pV, kx_s1, kx_s2, kx_sl, kx_pre, kx_c2, kx_pl, kx_cmp, kx_oF, kx_eqN, kx_nil, kx_c1, kx_ft, kx_aI, kx_aL, kx_aR, kx_ln, Nat.reduceAdd, Option.toList, List.cons_append, List.nil_append, cf4_2])
                all_goals (repeat' apply And.intro)
                all_goals ((try clear hB hC); first | exact True.intro | exact ⟨N9, rfl, hv9⟩ | exact ⟨N2, rfl, hv2⟩ | (rw [← he]; rfl) | (rw [← he]) | trace_state)
        · rw [if_neg (fun e => heq (congrArg (fun z => nI z) e))] at he
          refine hB bX4_firstBest_10 _ _ _ _ _ _ _ kX4_firstBest_10 ?_
          dsimp only [bX4_firstBest_10, kx_wp, kx_step, kx_lI, kx_lL, kx_lA, kx_gl, kx_pI, kx_pL, kx_pR, kx_pA, kx_pV, kx_s1, kx_s2, kx_sl, kx_pre, kx_c2, kx_pl, kx_cmp, kx_oF, kx_eqN, kx_nil, kx_c1, kx_ft, kx_aI, kx_aL, kx_aR, kx_ln, Nat.reduceAdd, Option.toList, List.cons_append, List.nil_append, cf4_2]
          repeat (simp only [p1, p2, p3, p4, p6, p8, pa, hF, ks_ne n81, ks_ne n82, nI_1, z1, ks_eq, ks_ss, zb, e1, y1]; try dsimp only [kx_wp, kx_step, kx_lI, kx_lL, kx_lA, kx_gl, kx_pI, kx_pL, kx_pR, kx_pA, kx_pV, kx_s1, kx_s2, kx_sl, kx_pre, kx_c2, kx_pl, kx_cmp, kx_oF, kx_eqN, kx_nil, kx_c1, kx_ft, kx_aI, kx_aL, kx_aR, kx_ln, Nat.reduceAdd, Option.toList, List.cons_append, List.nil_append, cf4_2])
          repeat' apply And.intro
          all_goals try (first | with_reducible assumption | (with_reducible refine ck_nzI ?_; simp; done) | (with_reducible refine ck_nzL ?_; simp; done) | (with_reducible refine vp_in_nI ?_ ?_ <;> first | omega | decide) | (with_reducible refine Nat.le_of_ble_eq_true ?_; rfl) | omega | exact Or.inl trivial | exact Or.inr trivial | exact Or.inl rfl | exact Or.inr rfl)
          · intro zc18
            first | exact absurd rfl zc18 | exact absurd zc18 (by decide) | exact absurd (by decide) zc18 | (exfalso; first | exact absurd ((nI_leI (a := 2 ^ n) (b := 2 ^ n) (by omega) (by omega)).mpr (by omega)) zc18 | exact absurd ((nI_leI (a := 2 ^ n) (b := k) (by omega) (by omega)).mp zc18) (by omega) | exact zc34 hnx | exact hnx zc34 | exact hnx (by rw [e1]; exact zc34) | exact zc53 heq | exact zc53 (fun e => heq e) | exact heq zc53) | (exfalso; simp_all; done)
          · intro zc18
            with_reducible first | have ze18 := Int32.not_le.mp zc18 | have ze18 := zc18
            refine hB bX4_firstBest_21 _ _ _ _ _ _ _ kX4_firstBest_21 ?_
            dsimp only [bX4_firstBest_21, kx_wp, kx_step, kx_lI, kx_lL, kx_lA, kx_gl, kx_pI, kx_pL, kx_pR, kx_pA, kx_pV, kx_s1, kx_s2, kx_sl, kx_pre, kx_c2, kx_pl, kx_cmp, kx_oF, kx_eqN, kx_nil, kx_c1, kx_ft, kx_aI, kx_aL, kx_aR, kx_ln, Nat.reduceAdd, Option.toList, List.cons_append, List.nil_append, cf4_2]
            repeat (simp only [p1, p2, p3, p4, p6, p8, pa, hF, ks_ne n81, ks_ne n82, nI_1, z1, ks_eq, ks_ss, zb, e1, y1]; try dsimp only [kx_wp, kx_step, kx_lI, kx_lL, kx_lA, kx_gl, kx_pI, kx_pL, kx_pR, kx_pA, kx_pV, kx_s1, kx_s2, kx_sl, kx_pre, kx_c2, kx_pl, kx_cmp, kx_oF, kx_eqN, kx_nil, kx_c1, kx_ft, kx_aI, kx_aL, kx_aR, kx_ln, Nat.reduceAdd, Option.toList, List.cons_append, List.nil_append, cf4_2])
            repeat' apply And.intro
            all_goals try (first | with_reducible assumption | (with_reducible refine ck_nzI ?_; simp; done) | (with_reducible refine ck_nzL ?_; simp; done) | (with_reducible refine vp_in_nI ?_ ?_ <;> first | omega | decide) | (with_reducible refine Nat.le_of_ble_eq_true ?_; rfl) | omega | exact Or.inl trivial | exact Or.inr trivial | exact Or.inl rfl | exact Or.inr rfl)
            refine hC.1 72 _ _ _ _ _ _ _ 4 _ _ _ _ _ _ _ _ _ _ _ _ lX4_72 (ct_X4_stateBehind l G (hp0.set (N2 := N9)) (by omega) hnow (by omega)) ⟨by decide, rfl⟩ (by rw [ks_ne n81]; exact p1) rfl rfl (Nat.le_of_ble_eq_true rfl) (by first | decide | omega) (by decide) (by omega) (by omega) dX4_firstBest_26 ?_
            rw [er]
            refine hB bX4_firstBest_29 _ _ _ _ _ _ _ kX4_firstBest_29 ?_
            dsimp only [bX4_firstBest_29, kx_wp, kx_step, kx_lI, kx_lL, kx_lA, kx_gl, kx_pI, kx_pL, kx_pR, kx_pA, kx_pV, kx_s1, kx_s2, kx_sl, kx_pre, kx_c2, kx_pl, kx_cmp, kx_oF, kx_eqN, kx_nil, kx_c1, kx_ft, kx_aI, kx_aL, kx_aR, kx_ln, Nat.reduceAdd, Option.toList, List.cons_append, List.nil_append, cf4_2]
            repeat (simp only [p1, p2, p3, p4, p6, p8, pa, hF, ks_ne n81, ks_ne n82, nI_1, z1, ks_eq, ks_ss, zb, e1, y1]; try dsimp only [kx_wp, kx_step, kx_lI, kx_lL, kx_lA, kx_gl, kx_pI, kx_pL, kx_pR, kx_pA, kx_pV, kx_s1, kx_s2, kx_sl, kx_pre, kx_c2, kx_pl, kx_cmp, kx_oF, kx_eqN, kx_nil, kx_c1, kx_ft, kx_aI, kx_aL, kx_aR, kx_ln, Nat.reduceAdd, Option.toList, List.cons_append, List.nil_append, cf4_2])
            repeat' apply And.intro
            all_goals try (first | with_reducible assumption | (with_reducible refine ck_nzI ?_; simp; done) | (with_reducible refine ck_nzL ?_; simp; done) | (with_reducible refine vp_in_nI ?_ ?_ <;> first | omega | decide) | (with_reducible refine Nat.le_of_ble_eq_true ?_; rfl) | omega | exact Or.inl trivial | exact Or.inr trivial | exact Or.inl rfl | exact Or.inr rfl)
            · intro zc34
              first | exact absurd rfl zc34 | exact absurd zc34 (by decide) | exact absurd (by decide) zc34 | (exfalso; first | exact absurd ((nI_leI (a := 2 ^ n) (b := 2 ^ n) (by omega) (by omega)).mpr (by omega)) zc18 | exact absurd ((nI_leI (a := 2 ^ n) (b := k) (by omega) (by omega)).mp zc18) (by omega) | exact zc34 hnx | exact hnx zc34 | exact hnx (by rw [e1]; exact zc34) | exact zc53 heq | exact zc53 (fun e => heq e) | exact heq zc53) | (exfalso; simp_all; done)
            · intro zc34
              have ze34 := zc34
              refine hB bX4_firstBest_37 _ _ _ _ _ _ _ kX4_firstBest_37 ?_
              dsimp only [bX4_firstBest_37, kx_wp, kx_step, kx_lI, kx_lL, kx_lA, kx_gl, kx_pI, kx_pL, kx_pR, kx_pA, kx_pV, kx_s1, kx_s2, kx_sl, kx_pre, kx_c2, kx_pl, kx_cmp, kx_oF, kx_eqN, kx_nil, kx_c1, kx_ft, kx_aI, kx_aL, kx_aR, kx_ln, Nat.reduceAdd, Option.toList, List.cons_append, List.nil_append, cf4_2]
              repeat (simp only [p1, p2, p3, p4, p6, p8, pa, hF, ks_ne n81, ks_ne n82, nI_1, z1, ks_eq, ks_ss, zb, e1, y1]; try dsimp only [kx_wp, kx_step, kx_lI, kx_lL, kx_lA, kx_gl, kx_pI, kx_pL, kx_pR, kx_pA, kx_pV, kx_s1, kx_s2, kx_sl, kx_pre, kx_c2, kx_pl, kx_cmp, kx_oF, kx_eqN, kx_nil, kx_c1, kx_ft, kx_aI, kx_aL, kx_aR, kx_ln, Nat.reduceAdd, Option.toList, List.cons_append, List.nil_append, cf4_2])
              repeat' apply And.intro
              all_goals try (first | with_reducible assumption | (with_reducible refine ck_nzI ?_; simp; done) | (with_reducible refine ck_nzL ?_; simp; done) | (with_reducible refine vp_in_nI ?_ ?_ <;> first | omega | decide) | (with_reducible refine Nat.le_of_ble_eq_true ?_; rfl) | omega | exact Or.inl trivial | exact Or.inr trivial | exact Or.inl rfl | exact Or.inr rfl)
              refine hC.2.1 80 _ _ _ _ _ _ _ _ _ _ _ _ _ _ _ _ _ lX4_80 (ct_J6_bitCount_0f7a4 l G) rfl rfl (Nat.le_of_ble_eq_true rfl) (by first | decide | omega) (by decide) (by omega) (by omega) dX4_firstBest_39 ?_
              refine hB bX4_firstBest_42 _ _ _ _ _ _ _ kX4_firstBest_42 ?_
              dsimp only [bX4_firstBest_42, kx_wp, kx_step, kx_lI, kx_lL, kx_lA, kx_gl, kx_pI, kx_pL, kx_pR, kx_pA, kx_pV, kx_s1, kx_s2, kx_sl, kx_pre, kx_c2, kx_pl, kx_cmp, kx_oF, kx_eqN, kx_nil, kx_c1, kx_ft, kx_aI, kx_aL, kx_aR, kx_ln, Nat.reduceAdd, Option.toList, List.cons_append, List.nil_append, cf4_2]
              repeat (simp only [p1, p2, p3, p4, p6, p8, pa, hF, ks_ne n81, ks_ne n82, nI_1, z1, ks_eq, ks_ss, zb, e1, y1]; try dsimp only [kx_wp, kx_step, kx_lI, kx_lL, kx_lA, kx_gl, kx_pI, kx_pL, kx_pR, kx_pA, kx_pV, kx_s1, kx_s2, kx_sl, kx_pre, kx_c2, kx_pl, kx_cmp, kx_oF, kx_eqN, kx_nil, kx_c1, kx_ft, kx_aI, kx_aL, kx_aR, kx_ln, Nat.reduceAdd, Option.toList, List.cons_append, List.nil_append, cf4_2])
              repeat' apply And.intro
              all_goals try (first | with_reducible assumption | (with_reducible refine ck_nzI ?_; simp; done) | (with_reducible refine ck_nzL ?_; simp; done) | (with_reducible refine vp_in_nI ?_ ?_ <;> first | omega | decide) | (with_reducible refine Nat.le_of_ble_eq_true ?_; rfl) | omega | exact Or.inl trivial | exact Or.inr trivial | exact Or.inl rfl | exact Or.inr rfl)
              refine hN.1 62 _ _ _ _ _ _ _ 4 _ _ _ _ _ _ _ _ _ _ lX4_62 (ct_X4_fewest l G hF hse q _ N9 (tm + 1) v (hp0.set (N2 := N9)) hv9 (by omega) (cp_nx_ok (by omega) hs)) ⟨by decide, rfl⟩ (by rw [ks_ne n81]; exact p1) rfl rfl (Nat.le_of_ble_eq_true rfl) (by omega) (by decide) (by omega) (by omega) dX4_firstBest_48 ?_
              rintro r2 P2 s2 ⟨rfl, ⟨N2, rfl, hv2⟩, rfl⟩
              rw [ks_ss]
              refine hB bX4_firstBest_51 _ _ _ _ _ _ _ kX4_firstBest_51 ?_
              dsimp only [bX4_firstBest_51, kx_wp, kx_step, kx_lI, kx_lL, kx_lA, kx_gl, kx_pI, kx_pL, kx_pR, kx_pA, kx_pV, kx_s1, kx_s2, kx_sl, kx_pre, kx_c2, kx_pl, kx_cmp, kx_oF, kx_eqN, kx_nil, kx_c1, kx_ft, kx_aI, kx_aL, kx_aR, kx_ln, Nat.reduceAdd, Option.toList, List.cons_append, List.nil_append, cf4_2]
              repeat (simp only [p1, p2, p3, p4, p6, p8, pa, hF, ks_ne n81, ks_ne n82, nI_1, z1, ks_eq, ks_ss, zb, e1, y1]; try dsimp only [kx_wp, kx_step, kx_lI, kx_lL, kx_lA, kx_gl, kx_pI, kx_pL, kx_pR, kx_pA, kx_pV, kx_s1, kx_s2, kx_sl, kx_pre, kx_c2, kx_pl, kx_cmp, kx_oF, kx_eqN, kx_nil, kx_c1, kx_ft, kx_aI, kx_aL, kx_aR, kx_ln, Nat.reduceAdd, Option.toList, List.cons_append, List.nil_append, cf4_2])
              repeat' apply And.intro
              all_goals try (first | with_reducible assumption | (with_reducible refine ck_nzI ?_; simp; done) | (with_reducible refine ck_nzL ?_; simp; done) | (with_reducible refine vp_in_nI ?_ ?_ <;> first | omega | decide) | (with_reducible refine Nat.le_of_ble_eq_true ?_; rfl) | omega | exact Or.inl trivial | exact Or.inr trivial | exact Or.inl rfl | exact Or.inr rfl)
              · intro zc53
                have ze53 := zc53
                refine hB bX4_firstBest_59 _ _ _ _ _ _ _ kX4_firstBest_59 ?_
                dsimp only [bX4_firstBest_59, kx_wp, kx_step, kx_lI, kx_lL, kx_lA, kx_gl, kx_pI, kx_pL, kx_pR, kx_pA, kx_pV, kx_s1, kx_s2, kx_sl, kx_pre, kx_c2, kx_pl, kx_cmp, kx_oF, kx_eqN, kx_nil, kx_c1, kx_ft, kx_aI, kx_aL, kx_aR, kx_ln, Nat.reduceAdd, Option.toList, List.cons_append, List.nil_append, cf4_2]
                repeat (simp only [p1, p2, p3, p4, p6, p8, pa, hF, ks_ne n81, ks_ne n82, nI_1, z1, ks_eq, ks_ss, zb, e1, y1]; try dsimp only [kx_wp, kx_step, kx_lI, kx_lL, kx_lA, kx_gl, kx_pI, kx_pL, kx_pR, kx_pA, kx_pV, kx_s1, kx_s2, kx_sl, kx_pre, kx_c2, kx_pl, kx_cmp, kx_oF, kx_eqN, kx_nil, kx_c1, kx_ft, kx_aI, kx_aL, kx_aR, kx_ln, Nat.reduceAdd, Option.toList, List.cons_append, List.nil_append, cf4_2])
                repeat' apply And.intro
                all_goals try (first | with_reducible assumption | (with_reducible refine ck_nzI ?_; simp; done) | (with_reducible refine ck_nzL ?_; simp; done) | (with_reducible refine vp_in_nI ?_ ?_ <;> first | omega | decide) | (with_reducible refine Nat.le_of_ble_eq_true ?_; rfl) | omega | exact Or.inl trivial | exact Or.inr trivial | exact Or.inl rfl | exact Or.inr rfl)
                exact ih (k + 1) _ _ (by omega) hv2 he
              · intro zc53
                first | exact absurd rfl zc53 | exact absurd zc53 (by decide) | exact absurd (by decide) zc53 | (exfalso; first | exact absurd ((nI_leI (a := 2 ^ n) (b := 2 ^ n) (by omega) (by omega)).mpr (by omega)) zc18 | exact absurd ((nI_leI (a := 2 ^ n) (b := k) (by omega) (by omega)).mp zc18) (by omega) | exact zc34 hnx | exact hnx zc34 | exact hnx (by rw [e1]; exact zc34) | exact zc53 heq | exact zc53 (fun e => heq e) | exact heq zc53) | (exfalso; simp_all; done)
  refine hB bX4_firstBest_0 _ _ _ _ _ _ _ kX4_firstBest_0 ?_
  dsimp only [bX4_firstBest_0, kx_wp, kx_step, kx_lI, kx_lL, kx_lA, kx_gl, kx_pI, kx_pL, kx_pR, kx_pA, kx_pV, kx_s1, kx_s2, kx_sl, kx_pre, kx_c2, kx_pl, kx_cmp, kx_oF, kx_eqN, kx_nil, kx_c1, kx_ft, kx_aI, kx_aL, kx_aR, kx_ln, Nat.reduceAdd, Option.toList, List.cons_append, List.nil_append, cf4_2]
  repeat (simp only [p1, p2, p3, p4, p6, p8, pa, hF, ks_ne n81, ks_ne n82, nI_1, z1, ks_eq, ks_ss]; try dsimp only [kx_wp, kx_step, kx_lI, kx_lL, kx_lA, kx_gl, kx_pI, kx_pL, kx_pR, kx_pA, kx_pV, kx_s1, kx_s2, kx_sl, kx_pre, kx_c2, kx_pl, kx_cmp, kx_oF, kx_eqN, kx_nil, kx_c1, kx_ft, kx_aI, kx_aL, kx_aR, kx_ln, Nat.reduceAdd, Option.toList, List.cons_append, List.nil_append, cf4_2])
  repeat' apply And.intro
  all_goals try (first | with_reducible assumption | (with_reducible refine ck_nzI ?_; simp; done) | (with_reducible refine ck_nzL ?_; simp; done) | (with_reducible refine vp_in_nI ?_ ?_ <;> first | omega | decide) | (with_reducible refine Nat.le_of_ble_eq_true ?_; rfl) | omega | exact Or.inl trivial | exact Or.inr trivial | exact Or.inl rfl | exact Or.inr rfl)
  refine hN.1 62 _ _ _ _ _ _ _ 4 _ _ _ _ _ _ _ _ _ _ lX4_62 (ct_X4_fewest l G hF hse (q + 1) P N tm now hp0 hv htm ho) ⟨by decide, rfl⟩ (p1) rfl rfl (Nat.le_of_ble_eq_true rfl) (by omega) (by decide) (by omega) (by omega) dX4_firstBest_3 ?_
  rintro r2 P2 s2 ⟨rfl, ⟨N9, rfl, hv9⟩, rfl⟩
  refine hB bX4_firstBest_6 _ _ _ _ _ _ _ kX4_firstBest_6 ?_
  dsimp only [bX4_firstBest_6, kx_wp, kx_step, kx_lI, kx_lL, kx_lA, kx_gl, kx_pI, kx_pL, kx_pR, kx_pA, kx_pV, kx_s1, kx_s2, kx_sl, kx_pre, kx_c2, kx_pl, kx_cmp, kx_oF, kx_eqN, kx_nil, kx_c1, kx_ft, kx_aI, kx_aL, kx_aR, kx_ln, Nat.reduceAdd, Option.toList, List.cons_append, List.nil_append, cf4_2]
  repeat (simp only [p1, p2, p3, p4, p6, p8, pa, hF, ks_ne n81, ks_ne n82, nI_1, z1, ks_eq, ks_ss]; try dsimp only [kx_wp, kx_step, kx_lI, kx_lL, kx_lA, kx_gl, kx_pI, kx_pL, kx_pR, kx_pA, kx_pV, kx_s1, kx_s2, kx_sl, kx_pre, kx_c2, kx_pl, kx_cmp, kx_oF, kx_eqN, kx_nil, kx_c1, kx_ft, kx_aI, kx_aL, kx_aR, kx_ln, Nat.reduceAdd, Option.toList, List.cons_append, List.nil_append, cf4_2])
  repeat' apply And.intro
  all_goals try (first | with_reducible assumption | (with_reducible refine ck_nzI ?_; simp; done) | (with_reducible refine ck_nzL ?_; simp; done) | (with_reducible refine vp_in_nI ?_ ?_ <;> first | omega | decide) | (with_reducible refine Nat.le_of_ble_eq_true ?_; rfl) | omega | exact Or.inl trivial | exact Or.inr trivial | exact Or.inl rfl | exact Or.inr rfl)
  exact loop10 (2 ^ n) 0 _ none (by omega) hv9 rfl

def bX4_woundAt_0 : List kx_O := [(.aload_n 0, 0, 0, 0, .null)]
theorem kX4_woundAt_0 : kx_oks kxL_X4 false cX4_woundAt 0 bX4_woundAt_0 = true := by decide +kernel
def bX4_woundAt_4 : List kx_O := [(.iconst (-1), 0, 0, 0, .int (-1)), (.if_icmp .ne 5, 10, 0, 0, .null)]
theorem kX4_woundAt_4 : kx_oks kxL_X4 false cX4_woundAt 4 bX4_woundAt_4 = true := by decide +kernel
def bX4_woundAt_8 : List kx_O := [(.iconst (-1), 0, 0, 0, .int (-1)), (.ireturn, 0, 0, 0, .null)]
theorem kX4_woundAt_8 : kx_oks kxL_X4 false cX4_woundAt 8 bX4_woundAt_8 = true := by decide +kernel
def bX4_woundAt_10 : List kx_O := [(.aload_n 0, 0, 0, 0, .null), (.getfield 28, 4, 5, 0, .null), (.istore_n 2, 2, 0, 0, .null), (.iconst 0, 0, 0, 0, .int 0), (.istore_n 3, 3, 0, 0, .null), (.iconst 0, 0, 0, 0, .int 0), (.istore 4, 4, 0, 0, .null)]
theorem kX4_woundAt_10 : kx_oks kxL_X4 false cX4_woundAt 10 bX4_woundAt_10 = true := by decide +kernel
def bX4_woundAt_20 : List kx_O := [(.iload 4, 4, 0, 0, .null), (.iload_n 1, 1, 0, 0, .null), (.if_icmp .gt 40, 63, 0, 0, .null)]
theorem kX4_woundAt_20 : kx_oks kxL_X4 false cX4_woundAt 20 bX4_woundAt_20 = true := by decide +kernel
def bX4_woundAt_26 : List kx_O := [(.iload 4, 4, 0, 0, .null), (.aload_n 0, 0, 0, 0, .null), (.getfield 22, 4, 3, 0, .null), (.if_icmp .ge 31, 63, 0, 0, .null)]
theorem kX4_woundAt_26 : kx_oks kxL_X4 false cX4_woundAt 26 bX4_woundAt_26 = true := by decide +kernel
def bX4_woundAt_35 : List kx_O := [(.iload_n 2, 2, 0, 0, .null), (.iconst (-1), 0, 0, 0, .int (-1)), (.if_icmp .eq 26, 63, 0, 0, .null)]
theorem kX4_woundAt_35 : kx_oks kxL_X4 false cX4_woundAt 35 bX4_woundAt_35 = true := by decide +kernel
def bX4_woundAt_40 : List kx_O := [(.aload_n 0, 0, 0, 0, .null), (.iload 4, 4, 0, 0, .null), (.iload_n 2, 2, 0, 0, .null)]
theorem kX4_woundAt_40 : kx_oks kxL_X4 false cX4_woundAt 40 bX4_woundAt_40 = true := by decide +kernel
def bX4_woundAt_47 : List kx_O := [(.istore_n 3, 3, 0, 0, .null), (.aload_n 0, 0, 0, 0, .null), (.iload 4, 4, 0, 0, .null), (.iload_n 2, 2, 0, 0, .null), (.iload_n 3, 3, 0, 0, .null)]
theorem kX4_woundAt_47 : kx_oks kxL_X4 false cX4_woundAt 47 bX4_woundAt_47 = true := by decide +kernel
def bX4_woundAt_56 : List kx_O := [(.istore_n 2, 2, 0, 0, .null), (.iinc 4 1, 4, 0, 0, .int 1), (.goto (-40), 20, 0, 0, .null)]
theorem kX4_woundAt_56 : kx_oks kxL_X4 false cX4_woundAt 56 bX4_woundAt_56 = true := by decide +kernel
def bX4_woundAt_63 : List kx_O := [(.aload_n 0, 0, 0, 0, .null), (.iload_n 3, 3, 0, 0, .null)]
theorem kX4_woundAt_63 : kx_oks kxL_X4 false cX4_woundAt 63 bX4_woundAt_63 = true := by decide +kernel
def bX4_woundAt_68 : List kx_O := [(.ireturn, 0, 0, 0, .null)]
theorem kX4_woundAt_68 : kx_oks kxL_X4 false cX4_woundAt 68 bX4_woundAt_68 = true := by decide +kernel
theorem dX4_woundAt_1 : decode cX4_woundAt 1 = .ok (.invokevirtual 65, 3) := by decide +kernel
theorem dX4_woundAt_44 : decode cX4_woundAt 44 = .ok (.invokevirtual 69, 3) := by decide +kernel
theorem dX4_woundAt_53 : decode cX4_woundAt 53 = .ok (.invokevirtual 72, 3) := by decide +kernel
theorem dX4_woundAt_65 : decode cX4_woundAt 65 = .ok (.invokevirtual 76, 3) := by decide +kernel
set_option maxRecDepth 100000 in
set_option maxHeartbeats 4000000 in
theorem ct_X4_woundAt (l : Launch) (G : kx_G) {P : kx_P} {sz : Nat} {nt : Nat} {F WS N : Nat → Int32} {ws : Nat → Nat} {n days many se : Nat} (hp : cp_H P nt F WS N ws n days many) (hF : F 7 = nI se) (hse : se ≤ 1000) (hv : cp_nv ws n many days se N) {st : Nat} (ho : cp_ok n days st) (h5 : F 5 = nI st) {NU : Nat → Int32} (hNU : P 82 = kI 0 4 NU) {wh : Nat} (hwh : wh < days) (hfe : cp_fw ws n many days st < 63)  : kx_Mn l G sX4_woundAt 26 0 0 [.ref 81, .int (nI wh)] P sz (fun rr P2 s2 => rr = some (.int (cp_nm NU (cp_fb ws n many (days - (wh) - 1) (cp_wn ws n many days st (wh))) n)) ∧ (∃ N2, P2 = kx_set P nt (kI 0 39973 N2) ∧ cp_nv ws n many days se N2) ∧ sz = s2) := by
  have hp0 := hp
  obtain ⟨p1, p2, p3, p4, p5, p6, p7, p8, p9, pa, pb, pc⟩ := hp
  have n81 : ¬ 81 = nt := by omega
  have n82 : ¬ 82 = nt := by omega
  have hst := cp_ok_lt p7 ho
  have z2 := cp_2n n p7
  have zz : ¬ nI (cp_fw ws n many days st) = -1 := cp_oi_n _ (by omega)
  refine kx_mkn kx_tab kxLok_X4 (ini := false) [some (.ref 81), some (.int (nI wh)), none, none, none] ⟨by decide, rfl, by decide, by decide⟩ (fun _ _ _ h => ⟨_, h.1⟩) rfl rfl (fun g hB hC hN => ?_)
  have hend : ∀ (k : Nat) (N9 : Nat → Int32) (x3 : Int32), cp_nv ws n many days se N9 → x3 = nI (cp_fb ws n many (days - (wh) - 1) (cp_wn ws n many days st (wh))) → cp_fb ws n many (days - (wh) - 1) (cp_wn ws n many days st (wh)) < 2 ^ n → k = wh + 1 → g 20 [some (.ref 81), some (.int (nI wh)), some (.int (nI (cp_wn ws n many days st (k)))), some (.int x3), some (.int (nI k))] [] (kx_set P nt (kI 0 39973 N9)) sz 0 0 := by
    intro k N9 x3 hv9 hx3 hlt hk
    subst hx3
    refine hB bX4_woundAt_20 _ _ _ _ _ _ _ kX4_woundAt_20 ?_
    dsimp only [bX4_woundAt_20, kx_wp, kx_step, kx_lI, kx_lL, kx_lA, kx_gl, kx_pI, kx_pL, kx_pR, kx_pA, kx_pV, kx_s1, kx_s2, kx_sl, kx_pre, kx_c2, kx_pl, kx_cmp, kx_oF, kx_eqN, kx_nil, kx_c1, kx_ft, kx_aI, kx_aL, kx_aR, kx_ln, Nat.reduceAdd, Option.toList, List.cons_append, List.nil_append, cf4_5, cf4_3]
    repeat (simp only [p1, p2, p3, p4, p6, p8, pa, hF, ks_ne n81, ks_ne n82, nI_1, h5, ks_eq, ks_ss]; try dsimp only [kx_wp, kx_step, kx_lI, kx_lL, kx_lA, kx_gl, kx_pI, kx_pL, kx_pR, kx_pA, kx_pV, kx_s1, kx_s2, kx_sl, kx_pre, kx_c2, kx_pl, kx_cmp, kx_oF, kx_eqN, kx_nil, kx_c1, kx_ft, kx_aI, kx_aL, kx_aR, kx_ln, Nat.reduceAdd, Option.toList, List.cons_append, List.nil_append, cf4_5, cf4_3])
    repeat' apply And.intro
    all_goals try (first | with_reducible assumption | (with_reducible refine ck_nzI ?_; simp; done) | (with_reducible refine ck_nzL ?_; simp; done) | (with_reducible refine vp_in_nI ?_ ?_ <;> first | omega | decide) | (with_reducible refine Nat.le_of_ble_eq_true ?_; rfl) | omega | exact Or.inl trivial | exact Or.inr trivial | exact Or.inl rfl | exact Or.inr rfl)
    · intro zc23
      with_reducible first | have ze23 := Int32.not_le.mpr zc23 | have ze23 := zc23
      refine hB bX4_woundAt_63 _ _ _ _ _ _ _ kX4_woundAt_63 ?_
      dsimp only [bX4_woundAt_63, kx_wp, kx_step, kx_lI, kx_lL, kx_lA, kx_gl, kx_pI, kx_pL, kx_pR, kx_pA, kx_pV, kx_s1, kx_s2, kx_sl, kx_pre, kx_c2, kx_pl, kx_cmp, kx_oF, kx_eqN, kx_nil, kx_c1, kx_ft, kx_aI, kx_aL, kx_aR, kx_ln, Nat.reduceAdd, Option.toList, List.cons_append, List.nil_append, cf4_5, cf4_3]
      repeat (simp only [p1, p2, p3, p4, p6, p8, pa, hF, ks_ne n81, ks_ne n82, nI_1, h5, ks_eq, ks_ss]; try dsimp only [kx_wp, kx_step, kx_lI, kx_lL, kx_lA, kx_gl, kx_pI, kx_pL, kx_pR, kx_pA, kx_pV, kx_s1, kx_s2, kx_sl, kx_pre, kx_c2, kx_pl, kx_cmp, kx_oF, kx_eqN, kx_nil, kx_c1, kx_ft, kx_aI, kx_aL, kx_aR, kx_ln, Nat.reduceAdd, Option.toList, List.cons_append, List.nil_append, cf4_5, cf4_3])
      repeat' apply And.intro
      all_goals try (first | with_reducible assumption | (with_reducible refine ck_nzI ?_; simp; done) | (with_reducible refine ck_nzL ?_; simp; done) | (with_reducible refine vp_in_nI ?_ ?_ <;> first | omega | decide) | (with_reducible refine Nat.le_of_ble_eq_true ?_; rfl) | omega | exact Or.inl trivial | exact Or.inr trivial | exact Or.inl rfl | exact Or.inr rfl)
      refine hC.1 76 _ _ _ _ _ _ _ 4 _ _ _ _ _ _ _ _ _ _ _ _ lX4_76 (ct_X4_named l G (by rw [ks_ne n81]; exact p1) (by rw [ks_ne n82]; exact hNU) p6 p7 (by omega)) ⟨by decide, rfl⟩ (by rw [ks_ne n81]; exact p1) rfl rfl (Nat.le_of_ble_eq_true rfl) (by first | decide | omega) (by decide) (by omega) (by omega) dX4_woundAt_65 ?_
      refine hB bX4_woundAt_68 _ _ _ _ _ _ _ kX4_woundAt_68 ?_
      dsimp only [bX4_woundAt_68, kx_wp, kx_step, kx_lI, kx_lL, kx_lA, kx_gl, kx_pI, kx_pL, kx_pR, kx_pA, kx_pV, kx_s1, kx_s2, kx_sl, kx_pre, kx_c2, kx_pl, kx_cmp, kx_oF, kx_eqN, kx_nil, kx_c1, kx_ft, kx_aI, kx_aL, kx_aR, kx_ln, Nat.reduceAdd, Option.toList, List.cons_append, List.nil_append, cf4_5, cf4_3]
      repeat (simp only [p1, p2, p3, p4, p6, p8, pa, hF, ks_ne n81, ks_ne n82, nI_1, h5, ks_eq, ks_ss]; try dsimp only [kx_wp, kx_step, kx_lI, kx_lL, kx_lA, kx_gl, kx_pI, kx_pL, kx_pR, kx_pA, kx_pV, kx_s1, kx_s2, kx_sl, kx_pre, kx_c2, kx_pl, kx_cmp, kx_oF, kx_eqN, kx_nil, kx_c1, kx_ft, kx_aI, kx_aL, kx_aR, kx_ln, Nat.reduceAdd, Option.toList, List.cons_append, List.nil_append, cf4_5, cf4_3])
      all_goals (repeat' apply And.intro)
      all_goals ((try clear hB hC); first | exact True.intro | exact ⟨N9, rfl, hv9⟩ | rfl | trace_state)
    · intro zc23
      first | exact absurd rfl zc23 | exact absurd zc23 (by decide) | exact absurd (by decide) zc23 | (exfalso; first | exact absurd ((nI_ltI (a := wh) (b := k) (by omega) (by omega)).mpr (by omega)) zc23 | exact absurd ((nI_ltI (a := wh) (b := k) (by omega) (by omega)).mp zc23) (by omega) | exact absurd ((nI_leI (a := days) (b := k) (by omega) (by omega)).mp zc32) (by omega) | exact zc5 zz | exact zz zc5 | exact hk3 zc37) | (exfalso; simp_all; done)
  have loop20 : ∀ (n9 k : Nat) (N9 : Nat → Int32) (x3 : Int32), k + n9 = wh → cp_nv ws n many days se N9 → g 20 [some (.ref 81), some (.int (nI wh)), some (.int (nI (cp_wn ws n many days st (k)))), some (.int x3), some (.int (nI k))] [] (kx_set P nt (kI 0 39973 N9)) sz 0 0 := by
    intro n9
    induction n9 with
    | zero =>
      intro k N9 x3 hk hv9
      obtain ⟨ho3, hf3⟩ := cp_wn_at p9 ho hfe k (by omega)
      have hw3 := cp_ok_lt p7 ho3
      have hk3 : ¬ nI (cp_wn ws n many days st (k)) = -1 := cp_oi_n _ (by omega)
      have hf4 : cp_fw ws n many (days - k - 1 + 1) (cp_wn ws n many days st (k)) < 63 := by rw [show days - k - 1 + 1 = days - k by omega]; exact hf3
      obtain ⟨hb3, -⟩ := cp_fb_at hf4
      have hs3 : cp_oi (cp_nx ws n many (days - k - 1) (cp_wn ws n many days st (k)) (cp_fb ws n many (days - (k) - 1) (cp_wn ws n many days st (k)))) = nI (cp_wn ws n many days st (k + 1)) := by rw [cp_wn_s p9 ho hfe (by omega)]; rfl
      refine hB bX4_woundAt_20 _ _ _ _ _ _ _ kX4_woundAt_20 ?_
      dsimp only [bX4_woundAt_20, kx_wp, kx_step, kx_lI, kx_lL, kx_lA, kx_gl, kx_pI, kx_pL, kx_pR, kx_pA, kx_pV, kx_s1, kx_s2, kx_sl, kx_pre, kx_c2, kx_pl, kx_cmp, kx_oF, kx_eqN, kx_nil, kx_c1, kx_ft, kx_aI, kx_aL, kx_aR, kx_ln, Nat.reduceAdd, Option.toList, List.cons_append, List.nil_append, cf4_5, cf4_3]
      repeat (simp only [p1, p2, p3, p4, p6, p8, pa, hF, ks_ne n81, ks_ne n82, nI_1, h5, ks_eq, ks_ss]; try dsimp only [kx_wp, kx_step, kx_lI, kx_lL, kx_lA, kx_gl, kx_pI, kx_pL, kx_pR, kx_pA, kx_pV, kx_s1, kx_s2, kx_sl, kx_pre, kx_c2, kx_pl, kx_cmp, kx_oF, kx_eqN, kx_nil, kx_c1, kx_ft, kx_aI, kx_aL, kx_aR, kx_ln, Nat.reduceAdd, Option.toList, List.cons_append, List.nil_append, cf4_5, cf4_3])
      repeat' apply And.intro
      all_goals try (first | with_reducible assumption | (with_reducible refine ck_nzI ?_; simp; done) | (with_reducible refine ck_nzL ?_; simp; done) | (with_reducible refine vp_in_nI ?_ ?_ <;> first | omega | decide) | (with_reducible refine Nat.le_of_ble_eq_true ?_; rfl) | omega | exact Or.inl trivial | exact Or.inr trivial | exact Or.inl rfl | exact Or.inr rfl)
      · intro zc23
        first | exact absurd rfl zc23 | exact absurd zc23 (by decide) | exact absurd (by decide) zc23 | (exfalso; first | exact absurd ((nI_ltI (a := wh) (b := k) (by omega) (by omega)).mpr (by omega)) zc23 | exact absurd ((nI_ltI (a := wh) (b := k) (by omega) (by omega)).mp zc23) (by omega) | exact absurd ((nI_leI (a := days) (b := k) (by omega) (by omega)).mp zc32) (by omega) | exact zc5 zz | exact zz zc5 | exact hk3 zc37) | (exfalso; simp_all; done)
      · intro zc23
        with_reducible first | have ze23 := Int32.not_lt.mp zc23 | have ze23 := zc23
        refine hB bX4_woundAt_26 _ _ _ _ _ _ _ kX4_woundAt_26 ?_
        dsimp only [bX4_woundAt_26, kx_wp, kx_step, kx_lI, kx_lL, kx_lA, kx_gl, kx_pI, kx_pL, kx_pR, kx_pA, kx_pV, kx_s1, kx_s2, kx_sl, kx_pre, kx_c2, kx_pl, kx_cmp, kx_oF, kx_eqN, kx_nil, kx_c1, kx_ft, kx_aI, kx_aL, kx_aR, kx_ln, Nat.reduceAdd, Option.toList, List.cons_append, List.nil_append, cf4_5, cf4_3]
        repeat (simp only [p1, p2, p3, p4, p6, p8, pa, hF, ks_ne n81, ks_ne n82, nI_1, h5, ks_eq, ks_ss]; try dsimp only [kx_wp, kx_step, kx_lI, kx_lL, kx_lA, kx_gl, kx_pI, kx_pL, kx_pR, kx_pA, kx_pV, kx_s1, kx_s2, kx_sl, kx_pre, kx_c2, kx_pl, kx_cmp, kx_oF, kx_eqN, kx_nil, kx_c1, kx_ft, kx_aI, kx_aL, kx_aR, kx_ln, Nat.reduceAdd, Option.toList, List.cons_append, List.nil_append, cf4_5, cf4_3])
        repeat' apply And.intro
        all_goals try (first | with_reducible assumption | (with_reducible refine ck_nzI ?_; simp; done) | (with_reducible refine ck_nzL ?_; simp; done) | (with_reducible refine vp_in_nI ?_ ?_ <;> first | omega | decide) | (with_reducible refine Nat.le_of_ble_eq_true ?_; rfl) | omega | exact Or.inl trivial | exact Or.inr trivial | exact Or.inl rfl | exact Or.inr rfl)
        · intro zc32
          first | exact absurd rfl zc32 | exact absurd zc32 (by decide) | exact absurd (by decide) zc32 | (exfalso; first | exact absurd ((nI_ltI (a := wh) (b := k) (by omega) (by omega)).mpr (by omega)) zc23 | exact absurd ((nI_ltI (a := wh) (b := k) (by omega) (by omega)).mp zc23) (by omega) | exact absurd ((nI_leI (a := days) (b := k) (by omega) (by omega)).mp zc32) (by omega) | exact zc5 zz | exact zz zc5 | exact hk3 zc37) | (exfalso; simp_all; done)
        · intro zc32
          with_reducible first | have ze32 := Int32.not_le.mp zc32 | have ze32 := zc32
          refine hB bX4_woundAt_35 _ _ _ _ _ _ _ kX4_woundAt_35 ?_
          dsimp only [bX4_woundAt_35, kx_wp, kx_step, kx_lI, kx_lL, kx_lA, kx_gl, kx_pI, kx_pL, kx_pR, kx_pA, kx_pV, kx_s1, kx_s2, kx_sl, kx_pre, kx_c2, kx_pl, kx_cmp, kx_oF, kx_eqN, kx_nil, kx_c1, kx_ft, kx_aI, kx_aL, kx_aR, kx_ln, Nat.reduceAdd, Option.toList, List.cons_append, List.nil_append, cf4_5, cf4_3]
          repeat (simp only [p1, p2, p3, p4, p6, p8, pa, hF, ks_ne n81, ks_ne n82, nI_1, h5, ks_eq, ks_ss]; try dsimp only [kx_wp, kx_step, kx_lI, kx_lL, kx_lA, kx_gl, kx_pI, kx_pL, kx_pR, kx_pA, kx_pV, kx_s1, kx_s2, kx_sl, kx_pre, kx_c2, kx_pl, kx_cmp, kx_oF, kx_eqN, kx_nil, kx_c1, kx_ft, kx_aI, kx_aL, kx_aR, kx_ln, Nat.reduceAdd, Option.toList, List.cons_append, List.nil_append, cf4_5, cf4_3])
          repeat' apply And.intro
          all_goals try (first | with_reducible assumption | (with_reducible refine ck_nzI ?_; simp; done) | (with_reducible refine ck_nzL ?_; simp; done) | (with_reducible refine vp_in_nI ?_ ?_ <;> first | omega | decide) | (with_reducible refine Nat.le_of_ble_eq_true ?_; rfl) | omega | exact Or.inl trivial | exact Or.inr trivial | exact Or.inl rfl | exact Or.inr rfl)
          · intro zc37
            first | exact absurd rfl zc37 | exact absurd zc37 (by decide) | exact absurd (by decide) zc37 | (exfalso; first | exact absurd ((nI_ltI (a := wh) (b := k) (by omega) (by omega)).mpr (by omega)) zc23 | exact absurd ((nI_ltI (a := wh) (b := k) (by omega) (by omega)).mp zc23) (by omega) | exact absurd ((nI_leI (a := days) (b := k) (by omega) (by omega)).mp zc32) (by omega) | exact zc5 zz | exact zz zc5 | exact hk3 zc37) | (exfalso; simp_all; done)
          · intro zc37
            have ze37 := zc37
            refine hB bX4_woundAt_40 _ _ _ _ _ _ _ kX4_woundAt_40 ?_
            dsimp only [bX4_woundAt_40, kx_wp, kx_step, kx_lI, kx_lL, kx_lA, kx_gl, kx_pI, kx_pL, kx_pR, kx_pA, kx_pV, kx_s1, kx_s2, kx_sl, kx_pre, kx_c2, kx_pl, kx_cmp, kx_oF, kx_eqN, kx_nil, kx_c1, kx_ft, kx_aI, kx_aL, kx_aR, kx_ln, Nat.reduceAdd, Option.toList, List.cons_append, List.nil_append, cf4_5, cf4_3]
            repeat (simp only [p1, p2, p3, p4, p6, p8, pa, hF, ks_ne n81, ks_ne n82, nI_1, h5, ks_eq, ks_ss]; try dsimp only [kx_wp, kx_step, kx_lI, kx_lL, kx_lA, kx_gl, kx_pI, kx_pL, kx_pR, kx_pA, kx_pV, kx_s1, kx_s2, kx_sl, kx_pre, kx_c2, kx_pl, kx_cmp, kx_oF, kx_eqN, kx_nil, kx_c1, kx_ft, kx_aI, kx_aL, kx_aR, kx_ln, Nat.reduceAdd, Option.toList, List.cons_append, List.nil_append, cf4_5, cf4_3])
            repeat' apply And.intro
            all_goals try (first | with_reducible assumption | (with_reducible refine ck_nzI ?_; simp; done) | (with_reducible refine ck_nzL ?_; simp; done) | (with_reducible refine vp_in_nI ?_ ?_ <;> first | omega | decide) | (with_reducible refine Nat.le_of_ble_eq_true ?_; rfl) | omega | exact Or.inl trivial | exact Or.inr trivial | exact Or.inl rfl | exact Or.inr rfl)
            refine hN.1 69 _ _ _ _ _ _ _ 4 _ _ _ _ _ _ _ _ _ _ lX4_69 (ct_X4_firstBest l G (hp0.set (N2 := N9)) hF hse hv9 (q := days - k - 1) (by omega) (by rw [show days - k - 1 + 1 = days - k by omega]; exact ho3)) ⟨by decide, rfl⟩ (by rw [ks_ne n81]; exact p1) rfl rfl (Nat.le_of_ble_eq_true rfl) (by omega) (by decide) (by omega) (by omega) dX4_woundAt_44 ?_
            rintro r2 P2 s2 ⟨rfl, ⟨N2, rfl, hv2⟩, rfl⟩
            rw [ks_ss]
            refine hB bX4_woundAt_47 _ _ _ _ _ _ _ kX4_woundAt_47 ?_
            dsimp only [bX4_woundAt_47, kx_wp, kx_step, kx_lI, kx_lL, kx_lA, kx_gl, kx_pI, kx_pL, kx_pR, kx_pA, kx_pV, kx_s1, kx_s2, kx_sl, kx_pre, kx_c2, kx_pl, kx_cmp, kx_oF, kx_eqN, kx_nil, kx_c1, kx_ft, kx_aI, kx_aL, kx_aR, kx_ln, Nat.reduceAdd, Option.toList, List.cons_append, List.nil_append, cf4_5, cf4_3]
            repeat (simp only [p1, p2, p3, p4, p6, p8, pa, hF, ks_ne n81, ks_ne n82, nI_1, h5, ks_eq, ks_ss]; try dsimp only [kx_wp, kx_step, kx_lI, kx_lL, kx_lA, kx_gl, kx_pI, kx_pL, kx_pR, kx_pA, kx_pV, kx_s1, kx_s2, kx_sl, kx_pre, kx_c2, kx_pl, kx_cmp, kx_oF, kx_eqN, kx_nil, kx_c1, kx_ft, kx_aI, kx_aL, kx_aR, kx_ln, Nat.reduceAdd, Option.toList, List.cons_append, List.nil_append, cf4_5, cf4_3])
            repeat' apply And.intro
            all_goals try (first | with_reducible assumption | (with_reducible refine ck_nzI ?_; simp; done) | (with_reducible refine ck_nzL ?_; simp; done) | (with_reducible refine vp_in_nI ?_ ?_ <;> first | omega | decide) | (with_reducible refine Nat.le_of_ble_eq_true ?_; rfl) | omega | exact Or.inl trivial | exact Or.inr trivial | exact Or.inl rfl | exact Or.inr rfl)
            refine hC.1 72 _ _ _ _ _ _ _ 4 _ _ _ _ _ _ _ _ _ _ _ _ lX4_72 (ct_X4_stateBehind l G (hp0.set (N2 := N2)) (tm := k) (by omega) hw3 (by omega)) ⟨by decide, rfl⟩ (by rw [ks_ne n81]; exact p1) rfl rfl (Nat.le_of_ble_eq_true rfl) (by first | decide | omega) (by decide) (by omega) (by omega) dX4_woundAt_53 ?_
            rw [hs3]
            refine hB bX4_woundAt_56 _ _ _ _ _ _ _ kX4_woundAt_56 ?_
            dsimp only [bX4_woundAt_56, kx_wp, kx_step, kx_lI, kx_lL, kx_lA, kx_gl, kx_pI, kx_pL, kx_pR, kx_pA, kx_pV, kx_s1, kx_s2, kx_sl, kx_pre, kx_c2, kx_pl, kx_cmp, kx_oF, kx_eqN, kx_nil, kx_c1, kx_ft, kx_aI, kx_aL, kx_aR, kx_ln, Nat.reduceAdd, Option.toList, List.cons_append, List.nil_append, cf4_5, cf4_3]
            repeat (simp only [p1, p2, p3, p4, p6, p8, pa, hF, ks_ne n81, ks_ne n82, nI_1, h5, ks_eq, ks_ss]; try dsimp only [kx_wp, kx_step, kx_lI, kx_lL, kx_lA, kx_gl, kx_pI, kx_pL, kx_pR, kx_pA, kx_pV, kx_s1, kx_s2, kx_sl, kx_pre, kx_c2, kx_pl, kx_cmp, kx_oF, kx_eqN, kx_nil, kx_c1, kx_ft, kx_aI, kx_aL, kx_aR, kx_ln, Nat.reduceAdd, Option.toList, List.cons_append, List.nil_append, cf4_5, cf4_3])
            repeat' apply And.intro
            all_goals try (first | with_reducible assumption | (with_reducible refine ck_nzI ?_; simp; done) | (with_reducible refine ck_nzL ?_; simp; done) | (with_reducible refine vp_in_nI ?_ ?_ <;> first | omega | decide) | (with_reducible refine Nat.le_of_ble_eq_true ?_; rfl) | omega | exact Or.inl trivial | exact Or.inr trivial | exact Or.inl rfl | exact Or.inr rfl)
            obtain rfl : k = wh := by omega
            exact hend (k + 1) N2 _ hv2 rfl hb3 rfl
    | succ n9 ih =>
      intro k N9 x3 hk hv9
      obtain ⟨ho3, hf3⟩ := cp_wn_at p9 ho hfe k (by omega)
      have hw3 := cp_ok_lt p7 ho3
      have hk3 : ¬ nI (cp_wn ws n many days st (k)) = -1 := cp_oi_n _ (by omega)
      have hf4 : cp_fw ws n many (days - k - 1 + 1) (cp_wn ws n many days st (k)) < 63 := by rw [show days - k - 1 + 1 = days - k by omega]; exact hf3
      obtain ⟨hb3, -⟩ := cp_fb_at hf4
      have hs3 : cp_oi (cp_nx ws n many (days - k - 1) (cp_wn ws n many days st (k)) (cp_fb ws n many (days - (k) - 1) (cp_wn ws n many days st (k)))) = nI (cp_wn ws n many days st (k + 1)) := by rw [cp_wn_s p9 ho hfe (by omega)]; rfl
      refine hB bX4_woundAt_20 _ _ _ _ _ _ _ kX4_woundAt_20 ?_
      dsimp only [bX4_woundAt_20, kx_wp, kx_step, kx_lI, kx_lL, kx_lA, kx_gl, kx_pI, kx_pL, kx_pR, kx_pA, kx_pV, kx_s1, kx_s2, kx_sl, kx_pre, kx_c2, kx_pl, kx_cmp, kx_oF, kx_eqN, kx_nil, kx_c1, kx_ft, kx_aI, kx_aL, kx_aR, kx_ln, Nat.reduceAdd, Option.toList, List.cons_append, List.nil_append, cf4_5, cf4_3]
      repeat (simp only [p1, p2, p3, p4, p6, p8, pa, hF, ks_ne n81, ks_ne n82, nI_1, h5, ks_eq, ks_ss]; try dsimp only [kx_wp, kx_step, kx_lI, kx_lL, kx_lA, kx_gl, kx_pI, kx_pL, kx_pR, kx_pA, kx_pV, kx_s1, kx_s2, kx_sl, kx_pre, kx_c2, kx_pl, kx_cmp, kx_oF, kx_eqN, kx_nil, kx_c1, kx_ft, kx_aI, kx_aL, kx_aR, kx_ln, Nat.reduceAdd, Option.toList, List.cons_append, List.nil_append, cf4_5, cf4_3])
      repeat' apply And.intro
      all_goals try (first | with_reducible assumption | (with_reducible refine ck_nzI ?_; simp; done) | (with_reducible refine ck_nzL ?_; simp; done) | (with_reducible refine vp_in_nI ?_ ?_ <;> first | omega | decide) | (with_reducible refine Nat.le_of_ble_eq_true ?_; rfl) | omega | exact Or.inl trivial | exact Or.inr trivial | exact Or.inl rfl | exact Or.inr rfl)
      · intro zc23
        first | exact absurd rfl zc23 | exact absurd zc23 (by decide) | exact absurd (by decide) zc23 | (exfalso; first | exact absurd ((nI_ltI (a := wh) (b := k) (by omega) (by omega)).mpr (by omega)) zc23 | exact absurd ((nI_ltI (a := wh) (b := k) (by omega) (by omega)).mp zc23) (by omega) | exact absurd ((nI_leI (a := days) (b := k) (by omega) (by omega)).mp zc32) (by omega) | exact zc5 zz | exact zz zc5 | exact hk3 zc37) | (exfalso; simp_all; done)
      · intro zc23
        with_reducible first | have ze23 := Int32.not_lt.mp zc23 | have ze23 := zc23
        refine hB bX4_woundAt_26 _ _ _ _ _ _ _ kX4_woundAt_26 ?_
        dsimp only [bX4_woundAt_26, kx_wp, kx_step, kx_lI, kx_lL, kx_lA, kx_gl, kx_pI, kx_pL, kx_pR, kx_pA, kx_pV, kx_s1, kx_s2, kx_sl, kx_pre, kx_c2, kx_pl, kx_cmp, kx_oF, kx_eqN, kx_nil, kx_c1, kx_ft, kx_aI, kx_aL, kx_aR, kx_ln, Nat.reduceAdd, Option.toList, List.cons_append, List.nil_append, cf4_5, cf4_3]
        repeat (simp only [p1, p2, p3, p4, p6, p8, pa, hF, ks_ne n81, ks_ne n82, nI_1, h5, ks_eq, ks_ss]; try dsimp only [kx_wp, kx_step, kx_lI, kx_lL, kx_lA, kx_gl, kx_pI, kx_pL, kx_pR, kx_pA, kx_pV, kx_s1, kx_s2, kx_sl, kx_pre, kx_c2, kx_pl, kx_cmp, kx_oF, kx_eqN, kx_nil, kx_c1, kx_ft, kx_aI, kx_aL, kx_aR, kx_ln, Nat.reduceAdd, Option.toList, List.cons_append, List.nil_append, cf4_5, cf4_3])
        repeat' apply And.intro
        all_goals try (first | with_reducible assumption | (with_reducible refine ck_nzI ?_; simp; done) | (with_reducible refine ck_nzL ?_; simp; done) | (with_reducible refine vp_in_nI ?_ ?_ <;> first | omega | decide) | (with_reducible refine Nat.le_of_ble_eq_true ?_; rfl) | omega | exact Or.inl trivial | exact Or.inr trivial | exact Or.inl rfl | exact Or.inr rfl)
        · intro zc32
          first | exact absurd rfl zc32 | exact absurd zc32 (by decide) | exact absurd (by decide) zc32 | (exfalso; first | exact absurd ((nI_ltI (a := wh) (b := k) (by omega) (by omega)).mpr (by omega)) zc23 | exact absurd ((nI_ltI (a := wh) (b := k) (by omega) (by omega)).mp zc23) (by omega) | exact absurd ((nI_leI (a := days) (b := k) (by omega) (by omega)).mp zc32) (by omega) | exact zc5 zz | exact zz zc5 | exact hk3 zc37) | (exfalso; simp_all; done)
        · intro zc32
          with_reducible first | have ze32 := Int32.not_le.mp zc32 | have ze32 := zc32
          refine hB bX4_woundAt_35 _ _ _ _ _ _ _ kX4_woundAt_35 ?_
          dsimp only [bX4_woundAt_35, kx_wp, kx_step, kx_lI, kx_lL, kx_lA, kx_gl, kx_pI, kx_pL, kx_pR, kx_pA, kx_pV, kx_s1, kx_s2, kx_sl, kx_pre, kx_c2, kx_pl, kx_cmp, kx_oF, kx_eqN, kx_nil, kx_c1, kx_ft, kx_aI, kx_aL, kx_aR, kx_ln, Nat.reduceAdd, Option.toList, List.cons_append, List.nil_append, cf4_5, cf4_3]
          repeat (simp only [p1, p2, p3, p4, p6, p8, pa, hF, ks_ne n81, ks_ne n82, nI_1, h5, ks_eq, ks_ss]; try dsimp only [kx_wp, kx_step, kx_lI, kx_lL, kx_lA, kx_gl, kx_pI, kx_pL, kx_pR, kx_pA, kx_pV, kx_s1, kx_s2, kx_sl, kx_pre, kx_c2, kx_pl, kx_cmp, kx_oF, kx_eqN, kx_nil, kx_c1, kx_ft, kx_aI, kx_aL, kx_aR, kx_ln, Nat.reduceAdd, Option.toList, List.cons_append, List.nil_append, cf4_5, cf4_3])
          repeat' apply And.intro
          all_goals try (first | with_reducible assumption | (with_reducible refine ck_nzI ?_; simp; done) | (with_reducible refine ck_nzL ?_; simp; done) | (with_reducible refine vp_in_nI ?_ ?_ <;> first | omega | decide) | (with_reducible refine Nat.le_of_ble_eq_true ?_; rfl) | omega | exact Or.inl trivial | exact Or.inr trivial | exact Or.inl rfl | exact Or.inr rfl)
          · intro zc37
            first | exact absurd rfl zc37 | exact absurd zc37 (by decide) | exact absurd (by decide) zc37 | (exfalso; first | exact absurd ((nI_ltI (a := wh) (b := k) (by omega) (by omega)).mpr (by omega)) zc23 | exact absurd ((nI_ltI (a := wh) (b := k) (by omega) (by omega)).mp zc23) (by omega) | exact absurd ((nI_leI (a := days) (b := k) (by omega) (by omega)).mp zc32) (by omega) | exact zc5 zz | exact zz zc5 | exact hk3 zc37) | (exfalso; simp_all; done)
          · intro zc37
            have ze37 := zc37
            refine hB bX4_woundAt_40 _ _ _ _ _ _ _ kX4_woundAt_40 ?_
            dsimp only [bX4_woundAt_40, kx_wp, kx_step, kx_lI, kx_lL, kx_lA, kx_gl, kx_pI, kx_pL, kx_pR, kx_pA, kx_pV, kx_s1, kx_s2, kx_sl, kx_pre, kx_c2, kx_pl, kx_cmp, kx_oF, kx_eqN, kx_nil, kx_c1, kx_ft, kx_aI, kx_aL, kx_aR, kx_ln, Nat.reduceAdd, Option.toList, List.cons_append, List.nil_append, cf4_5, cf4_3]
            repeat (simp only [p1, p2, p3, p4, p6, p8, pa, hF, ks_ne n81, ks_ne n82, nI_1, h5, ks_eq, ks_ss]; try dsimp only [kx_wp, kx_step, kx_lI, kx_lL, kx_lA, kx_gl, kx_pI, kx_pL, kx_pR, kx_pA, kx_pV, kx_s1, kx_s2, kx_sl, kx_pre, kx_c2, kx_pl, kx_cmp, kx_oF, kx_eqN, kx_nil, kx_c1, kx_ft, kx_aI, kx_aL, kx_aR, kx_ln, Nat.reduceAdd, Option.toList, List.cons_append, List.nil_append, cf4_5, cf4_3])
            repeat' apply And.intro
            all_goals try (first | with_reducible assumption | (with_reducible refine ck_nzI ?_; simp; done) | (with_reducible refine ck_nzL ?_; simp; done) | (with_reducible refine vp_in_nI ?_ ?_ <;> first | omega | decide) | (with_reducible refine Nat.le_of_ble_eq_true ?_; rfl) | omega | exact Or.inl trivial | exact Or.inr trivial | exact Or.inl rfl | exact Or.inr rfl)
            refine hN.1 69 _ _ _ _ _ _ _ 4 _ _ _ _ _ _ _ _ _ _ lX4_69 (ct_X4_firstBest l G (hp0.set (N2 := N9)) hF hse hv9 (q := days - k - 1) (by omega) (by rw [show days - k - 1 + 1 = days - k by omega]; exact ho3)) ⟨by decide, rfl⟩ (by rw [ks_ne n81]; exact p1) rfl rfl (Nat.le_of_ble_eq_true rfl) (by omega) (by decide) (by omega) (by omega) dX4_woundAt_44 ?_
            rintro r2 P2 s2 ⟨rfl, ⟨N2, rfl, hv2⟩, rfl⟩
            rw [ks_ss]
            refine hB bX4_woundAt_47 _ _ _ _ _ _ _ kX4_woundAt_47 ?_
            dsimp only [bX4_woundAt_47, kx_wp, kx_step, kx_lI, kx_lL, kx_lA, kx_gl, kx_pI, kx_pL, kx_pR, kx_pA, kx_pV, kx_s1, kx_s2, kx_sl, kx_pre, kx_c2, kx_pl, kx_cmp, kx_oF, kx_eqN, kx_nil, kx_c1, kx_ft, kx_aI, kx_aL, kx_aR, kx_ln, Nat.reduceAdd, Option.toList, List.cons_append, List.nil_append, cf4_5, cf4_3]
            repeat (simp only [p1, p2, p3, p4, p6, p8, pa, hF, ks_ne n81, ks_ne n82, nI_1, h5, ks_eq, ks_ss]; try dsimp only [kx_wp, kx_step, kx_lI, kx_lL, kx_lA, kx_gl, kx_pI, kx_pL, kx_pR, kx_pA, kx_pV, kx_s1, kx_s2, kx_sl, kx_pre, kx_c2, kx_pl, kx_cmp, kx_oF, kx_eqN, kx_nil, kx_c1, kx_ft, kx_aI, kx_aL, kx_aR, kx_ln, Nat.reduceAdd, Option.toList, List.cons_append, List.nil_append, cf4_5, cf4_3])
            repeat' apply And.intro
            all_goals try (first | with_reducible assumption | (with_reducible refine ck_nzI ?_; simp; done) | (with_reducible refine ck_nzL ?_; simp; done) | (with_reducible refine vp_in_nI ?_ ?_ <;> first | omega | decide) | (with_reducible refine Nat.le_of_ble_eq_true ?_; rfl) | omega | exact Or.inl trivial | exact Or.inr trivial | exact Or.inl rfl | exact Or.inr rfl)
            refine hC.1 72 _ _ _ _ _ _ _ 4 _ _ _ _ _ _ _ _ _ _ _ _ lX4_72 (ct_X4_stateBehind l G (hp0.set (N2 := N2)) (tm := k) (by omega) hw3 (by omega)) ⟨by decide, rfl⟩ (by rw [ks_ne n81]; exact p1) rfl rfl (Nat.le_of_ble_eq_true rfl) (by first | decide | omega) (by decide) (by omega) (by omega) dX4_woundAt_53 ?_
            rw [hs3]
            refine hB bX4_woundAt_56 _ _ _ _ _ _ _ kX4_woundAt_56 ?_
            dsimp only [bX4_woundAt_56, kx_wp, kx_step, kx_lI, kx_lL, kx_lA, kx_gl, kx_pI, kx_pL, kx_pR, kx_pA, kx_pV, kx_s1, kx_s2, kx_sl, kx_pre, kx_c2, kx_pl, kx_cmp, kx_oF, kx_eqN, kx_nil, kx_c1, kx_ft, kx_aI, kx_aL, kx_aR, kx_ln, Nat.reduceAdd, Option.toList, List.cons_append, List.nil_append, cf4_5, cf4_3]
            repeat (simp only [p1, p2, p3, p4, p6, p8, pa, hF, ks_ne n81, ks_ne n82, nI_1, h5, ks_eq, ks_ss]; try dsimp only [kx_wp, kx_step, kx_lI, kx_lL, kx_lA, kx_gl, kx_pI, kx_pL, kx_pR, kx_pA, kx_pV, kx_s1, kx_s2, kx_sl, kx_pre, kx_c2, kx_pl, kx_cmp, kx_oF, kx_eqN, kx_nil, kx_c1, kx_ft, kx_aI, kx_aL, kx_aR, kx_ln, Nat.reduceAdd, Option.toList, List.cons_append, List.nil_append, cf4_5, cf4_3])
            repeat' apply And.intro
            all_goals try (first | with_reducible assumption | (with_reducible refine ck_nzI ?_; simp; done) | (with_reducible refine ck_nzL ?_; simp; done) | (with_reducible refine vp_in_nI ?_ ?_ <;> first | omega | decide) | (with_reducible refine Nat.le_of_ble_eq_true ?_; rfl) | omega | exact Or.inl trivial | exact Or.inr trivial | exact Or.inl rfl | exact Or.inr rfl)
            exact ih (k + 1) N2 _ (by omega) hv2
  refine hB bX4_woundAt_0 _ _ _ _ _ _ _ kX4_woundAt_0 ?_
  dsimp only [bX4_woundAt_0, kx_wp, kx_step, kx_lI, kx_lL, kx_lA, kx_gl, kx_pI, kx_pL, kx_pR, kx_pA, kx_pV, kx_s1, kx_s2, kx_sl, kx_pre, kx_c2, kx_pl, kx_cmp, kx_oF, kx_eqN, kx_nil, kx_c1, kx_ft, kx_aI, kx_aL, kx_aR, kx_ln, Nat.reduceAdd, Option.toList, List.cons_append, List.nil_append, cf4_5, cf4_3]
  repeat (simp only [p1, p2, p3, p4, p6, p8, pa, hF, ks_ne n81, ks_ne n82, nI_1, h5, ks_eq, ks_ss]; try dsimp only [kx_wp, kx_step, kx_lI, kx_lL, kx_lA, kx_gl, kx_pI, kx_pL, kx_pR, kx_pA, kx_pV, kx_s1, kx_s2, kx_sl, kx_pre, kx_c2, kx_pl, kx_cmp, kx_oF, kx_eqN, kx_nil, kx_c1, kx_ft, kx_aI, kx_aL, kx_aR, kx_ln, Nat.reduceAdd, Option.toList, List.cons_append, List.nil_append, cf4_5, cf4_3])
  repeat' apply And.intro
  all_goals try (first | with_reducible assumption | (with_reducible refine ck_nzI ?_; simp; done) | (with_reducible refine ck_nzL ?_; simp; done) | (with_reducible refine vp_in_nI ?_ ?_ <;> first | omega | decide) | (with_reducible refine Nat.le_of_ble_eq_true ?_; rfl) | omega | exact Or.inl trivial | exact Or.inr trivial | exact Or.inl rfl | exact Or.inr rfl)
  refine hN.1 65 _ _ _ _ _ _ _ 4 _ _ _ _ _ _ _ _ _ _ lX4_65 (ct_X4_windings l G hp0 hF hse hv ho h5) ⟨by decide, rfl⟩ (p1) rfl rfl (Nat.le_of_ble_eq_true rfl) (by omega) (by decide) (by omega) (by omega) dX4_woundAt_1 ?_
  rintro r2 P2 s2 ⟨rfl, ⟨N9, rfl, hv9⟩, rfl⟩
  rw [if_pos hfe]
  refine hB bX4_woundAt_4 _ _ _ _ _ _ _ kX4_woundAt_4 ?_
  dsimp only [bX4_woundAt_4, kx_wp, kx_step, kx_lI, kx_lL, kx_lA, kx_gl, kx_pI, kx_pL, kx_pR, kx_pA, kx_pV, kx_s1, kx_s2, kx_sl, kx_pre, kx_c2, kx_pl, kx_cmp, kx_oF, kx_eqN, kx_nil, kx_c1, kx_ft, kx_aI, kx_aL, kx_aR, kx_ln, Nat.reduceAdd, Option.toList, List.cons_append, List.nil_append, cf4_5, cf4_3]
  repeat (simp only [p1, p2, p3, p4, p6, p8, pa, hF, ks_ne n81, ks_ne n82, nI_1, h5, ks_eq, ks_ss]; try dsimp only [kx_wp, kx_step, kx_lI, kx_lL, kx_lA, kx_gl, kx_pI, kx_pL, kx_pR, kx_pA, kx_pV, kx_s1, kx_s2, kx_sl, kx_pre, kx_c2, kx_pl, kx_cmp, kx_oF, kx_eqN, kx_nil, kx_c1, kx_ft, kx_aI, kx_aL, kx_aR, kx_ln, Nat.reduceAdd, Option.toList, List.cons_append, List.nil_append, cf4_5, cf4_3])
  repeat' apply And.intro
  all_goals try (first | with_reducible assumption | (with_reducible refine ck_nzI ?_; simp; done) | (with_reducible refine ck_nzL ?_; simp; done) | (with_reducible refine vp_in_nI ?_ ?_ <;> first | omega | decide) | (with_reducible refine Nat.le_of_ble_eq_true ?_; rfl) | omega | exact Or.inl trivial | exact Or.inr trivial | exact Or.inl rfl | exact Or.inr rfl)
  · intro zc5
    have ze5 := zc5
    refine hB bX4_woundAt_10 _ _ _ _ _ _ _ kX4_woundAt_10 ?_
    dsimp only [bX4_woundAt_10, kx_wp, kx_step, kx_lI, kx_lL, kx_lA, kx_gl, kx_pI, kx_pL, kx_pR, kx_pA, kx_pV, kx_s1, kx_s2, kx_sl, kx_pre, kx_c2, kx_pl, kx_cmp, kx_oF, kx_eqN, kx_nil, kx_c1, kx_ft, kx_aI, kx_aL, kx_aR, kx_ln, Nat.reduceAdd, Option.toList, List.cons_append, List.nil_append, cf4_5, cf4_3]
    repeat (simp only [p1, p2, p3, p4, p6, p8, pa, hF, ks_ne n81, ks_ne n82, nI_1, h5, ks_eq, ks_ss]; try dsimp only [kx_wp, kx_step, kx_lI, kx_lL, kx_lA, kx_gl, kx_pI, kx_pL, kx_pR, kx_pA, kx_pV, kx_s1, kx_s2, kx_sl, kx_pre, kx_c2, kx_pl, kx_cmp, kx_oF, kx_eqN, kx_nil, kx_c1, kx_ft, kx_aI, kx_aL, kx_aR, kx_ln, Nat.reduceAdd, Option.toList, List.cons_append, List.nil_append, cf4_5, cf4_3])
    repeat' apply And.intro
    all_goals try (first | with_reducible assumption | (with_reducible refine ck_nzI ?_; simp; done) | (with_reducible refine ck_nzL ?_; simp; done) | (with_reducible refine vp_in_nI ?_ ?_ <;> first | omega | decide) | (with_reducible refine Nat.le_of_ble_eq_true ?_; rfl) | omega | exact Or.inl trivial | exact Or.inr trivial | exact Or.inl rfl | exact Or.inr rfl)
    exact loop20 wh 0 N9 _ (by omega) hv9
  · intro zc5
    first | exact absurd rfl zc5 | exact absurd zc5 (by decide) | exact absurd (by decide) zc5 | (exfalso; first | exact absurd ((nI_ltI (a := wh) (b := k) (by omega) (by omega)).mpr (by omega)) zc23 | exact absurd ((nI_ltI (a := wh) (b := k) (by omega) (by omega)).mp zc23) (by omega) | exact absurd ((nI_leI (a := days) (b := k) (by omega) (by omega)).mp zc32) (by omega) | exact zc5 zz | exact zz zc5 | exact hk3 zc37) | (exfalso; simp_all; done)


theorem cp_stl_ok {lf : Nat → Nat} {days s : Nat} (hd : days ≤ 10) : ∀ c v, cp_stl lf days s c = some v → cp_ok (ck_ct s c) days v := by
  intro c
  induction c with
  | zero => intro v h; cases h; exact ⟨Nat.one_pos, fun i hi => absurd hi (Nat.not_lt_zero _)⟩
  | succ c ih =>
    intro v h
    have hlt := cp_stl_lt hd (c + 1) v h
    refine ⟨hlt, ?_⟩
    rw [cp_stl] at h
    rw [ck_ct]
    split at h
    · rename_i hb
      rw [hb]
      unfold cp_js at h
      split at h
      · cases h
      · split at h
        · cases h
        · rename_i v2 h2
          cases h
          have hi9 := ih _ h2
          have hm : min ((lf c - 1) / 1440) days < 16 := by omega
          obtain ⟨q1, q2⟩ := cp_d_add hi9.1 hm
          intro i hi
          by_cases e : i = ck_ct s c
          · subst e
            rw [q2]
            omega
          · rw [q1 i (by omega)]
            exact hi9.2 i (by omega)
    · rename_i hb
      rw [show s / 2 ^ c % 2 = 0 by omega]
      exact (ih v h).2
theorem cp_wsl_ok {WS : Nat → Int32} {run : Nat → Nat} {s : Nat} : ∀ c, (∀ i, i < c → s / 2 ^ i % 2 = 1 → run i ≤ 31) → ∀ i, i < ck_ct s c → ∃ v, v ≤ 30 ∧ cp_wsl WS run s c i = nI v := by
  intro c
  induction c with
  | zero => intro _ i hi; exact absurd hi (Nat.not_lt_zero _)
  | succ c ih =>
    intro hr i hi
    rw [ck_ct] at hi
    rw [cp_wsl]
    split
    · rename_i hb
      rw [hb] at hi
      by_cases e : i = ck_ct s c
      · subst e
        exact ⟨run c - 1, by have := hr c (Nat.lt_succ_self _) hb; omega, pk_us⟩
      · rw [pk_un e]
        exact ih (fun j hj hb => hr j (by omega) hb) i (by omega)
    · rename_i hb
      rw [show s / 2 ^ c % 2 = 0 by omega] at hi
      exact ih (fun j hj hb => hr j (by omega) hb) i (by omega)
theorem cp_nv0 {ws : Nat → Nat} {n many days se : Nat} {N : Nat → Int32} (hN : ∀ i, i < 39973 → ∃ e : Nat, N i = nI e ∧ e < 64 * (se + 1)) (hn : n ≤ 4) (hd : days ≤ 10) (hse : se ≤ 1000) : cp_nv ws n many days (se + 1) N := by
  refine ⟨fun i hi => ?_, fun r now h1 h2 ho he => ?_⟩
  · obtain ⟨e, h1, h2⟩ := hN i hi
    exact ⟨e, h1, by omega⟩
  · exfalso
    obtain ⟨e, h3, h4⟩ := hN _ (cp_ix_lt ho hn h1 (by omega)).1
    rw [h3, show (6 : Int32) &&& 31 = (6 : Int32) &&& 31 from rfl, pk_shrN (by omega) _ 6 (by decide)] at he
    have h5 : e / 2 ^ 6 = se + 1 := (nI_eq (by omega) (by omega)).mp he
    omega
def cx_ws (WS : Nat → Int32) (run : Nat → Nat) (s : Nat) : Nat → Nat := fun i => (cp_wsl WS run s 8 i).toNatClampNeg
def cx_plv (NU WS : Nat → Int32) (run lf : Nat → Nat) (s days many : Nat) : Nat → Int32 := fun what =>
  match cp_stl lf days s 8 with
  | none => -1
  | some st => if cp_fw (cx_ws WS run s) (ck_ct s 8) many days st < 63 then (match what with
    | 0 => nI (cp_fw (cx_ws WS run s) (ck_ct s 8) many days st)
    | k + 1 => cp_nm (ck_pcl NU s 8) (cp_fb (cx_ws WS run s) (ck_ct s 8) many (days - k - 1) (cp_wn (cx_ws WS run s) (ck_ct s 8) many days st k)) (ck_ct s 8)) else -1
theorem cx_plv_n {NU WS : Nat → Int32} {run lf : Nat → Nat} {s days many what : Nat} (h : cp_stl lf days s 8 = none) : cx_plv NU WS run lf s days many what = -1 := by
  unfold cx_plv
  rw [h]
theorem cx_plv_b {NU WS : Nat → Int32} {run lf : Nat → Nat} {s days many what st : Nat} (h : cp_stl lf days s 8 = some st) (hf : ¬ cp_fw (cx_ws WS run s) (ck_ct s 8) many days st < 63) : cx_plv NU WS run lf s days many what = -1 := by
  unfold cx_plv
  rw [h]
  exact if_neg hf
theorem cx_plv_0 {NU WS : Nat → Int32} {run lf : Nat → Nat} {s days many st : Nat} (h : cp_stl lf days s 8 = some st) : cx_plv NU WS run lf s days many 0 = if cp_fw (cx_ws WS run s) (ck_ct s 8) many days st < 63 then nI (cp_fw (cx_ws WS run s) (ck_ct s 8) many days st) else -1 := by
  unfold cx_plv
  rw [h]
theorem cx_plv_s {NU WS : Nat → Int32} {run lf : Nat → Nat} {s days many st k : Nat} (h : cp_stl lf days s 8 = some st) (hf : cp_fw (cx_ws WS run s) (ck_ct s 8) many days st < 63) : cx_plv NU WS run lf s days many (k + 1) = cp_nm (ck_pcl NU s 8) (cp_fb (cx_ws WS run s) (ck_ct s 8) many (days - k - 1) (cp_wn (cx_ws WS run s) (ck_ct s 8) many days st k)) (ck_ct s 8) := by
  unfold cx_plv
  rw [h]
  exact if_pos hf
set_option maxRecDepth 100000 in
set_option maxHeartbeats 4000000 in
theorem ct_X4_woundAt_n (l : Launch) (G : kx_G) {P : kx_P} {sz : Nat} {F : Nat → Int32} {nv : Value} (hO : P 81 = kO 4 (kf (cr4 nv) F)) (h5 : F 5 = -1) {x : Int32}  : kx_M l G sX4_woundAt 26 0 0 [.ref 81, .int (x)] P sz (some (.int (-1))) P sz := by
  refine kx_mk kx_tab kxLok_X4 (ini := false) [some (.ref 81), some (.int (x)), none, none, none] ⟨by decide, rfl, by decide, by decide⟩ (⟨_, rfl⟩) rfl rfl (fun g hB hC => ?_)
  refine hB bX4_woundAt_0 _ _ _ _ _ _ _ kX4_woundAt_0 ?_
  dsimp only [bX4_woundAt_0, kx_wp, kx_step, kx_lI, kx_lL, kx_lA, kx_gl, kx_pI, kx_pL, kx_pR, kx_pA, kx_pV, kx_s1, kx_s2, kx_sl, kx_pre, kx_c2, kx_pl, kx_cmp, kx_oF, kx_eqN, kx_nil, kx_c1, kx_ft, kx_aI, kx_aL, kx_aR, kx_ln, Nat.reduceAdd, Option.toList, List.cons_append, List.nil_append, cf4_5, cf4_3]
  repeat (simp only [hO, ks_eq, ks_ss]; try dsimp only [kx_wp, kx_step, kx_lI, kx_lL, kx_lA, kx_gl, kx_pI, kx_pL, kx_pR, kx_pA, kx_pV, kx_s1, kx_s2, kx_sl, kx_pre, kx_c2, kx_pl, kx_cmp, kx_oF, kx_eqN, kx_nil, kx_c1, kx_ft, kx_aI, kx_aL, kx_aR, kx_ln, Nat.reduceAdd, Option.toList, List.cons_append, List.nil_append, cf4_5, cf4_3])
  repeat' apply And.intro
  all_goals try (first | with_reducible assumption | (with_reducible refine ck_nzI ?_; simp; done) | (with_reducible refine ck_nzL ?_; simp; done) | (with_reducible refine vp_in_nI ?_ ?_ <;> first | omega | decide) | (with_reducible refine Nat.le_of_ble_eq_true ?_; rfl) | omega | exact Or.inl trivial | exact Or.inr trivial | exact Or.inl rfl | exact Or.inr rfl)
  refine hC.1 65 _ _ _ _ _ _ _ 4 _ _ _ _ _ _ _ _ _ _ _ _ lX4_65 (ct_X4_windings_n l G hO h5) ⟨by decide, rfl⟩ (hO) rfl rfl (Nat.le_of_ble_eq_true rfl) (by first | decide | omega) (by decide) (by omega) (by omega) dX4_woundAt_1 ?_
  refine hB bX4_woundAt_4 _ _ _ _ _ _ _ kX4_woundAt_4 ?_
  dsimp only [bX4_woundAt_4, kx_wp, kx_step, kx_lI, kx_lL, kx_lA, kx_gl, kx_pI, kx_pL, kx_pR, kx_pA, kx_pV, kx_s1, kx_s2, kx_sl, kx_pre, kx_c2, kx_pl, kx_cmp, kx_oF, kx_eqN, kx_nil, kx_c1, kx_ft, kx_aI, kx_aL, kx_aR, kx_ln, Nat.reduceAdd, Option.toList, List.cons_append, List.nil_append, cf4_5, cf4_3]
  repeat (simp only [hO, ks_eq, ks_ss]; try dsimp only [kx_wp, kx_step, kx_lI, kx_lL, kx_lA, kx_gl, kx_pI, kx_pL, kx_pR, kx_pA, kx_pV, kx_s1, kx_s2, kx_sl, kx_pre, kx_c2, kx_pl, kx_cmp, kx_oF, kx_eqN, kx_nil, kx_c1, kx_ft, kx_aI, kx_aL, kx_aR, kx_ln, Nat.reduceAdd, Option.toList, List.cons_append, List.nil_append, cf4_5, cf4_3])
  repeat' apply And.intro
  all_goals try (first | with_reducible assumption | (with_reducible refine ck_nzI ?_; simp; done) | (with_reducible refine ck_nzL ?_; simp; done) | (with_reducible refine vp_in_nI ?_ ?_ <;> first | omega | decide) | (with_reducible refine Nat.le_of_ble_eq_true ?_; rfl) | omega | exact Or.inl trivial | exact Or.inr trivial | exact Or.inl rfl | exact Or.inr rfl)
  · intro zc5
    first | exact absurd rfl zc5 | exact absurd zc5 (by decide) | exact absurd (by decide) zc5 | (exfalso; exact zc5 rfl) | (exfalso; simp_all; done)
  · intro zc5
    with_reducible first | have ze5 := Decidable.not_not.mp zc5 | have ze5 := zc5
    refine hB bX4_woundAt_8 _ _ _ _ _ _ _ kX4_woundAt_8 ?_
    dsimp only [bX4_woundAt_8, kx_wp, kx_step, kx_lI, kx_lL, kx_lA, kx_gl, kx_pI, kx_pL, kx_pR, kx_pA, kx_pV, kx_s1, kx_s2, kx_sl, kx_pre, kx_c2, kx_pl, kx_cmp, kx_oF, kx_eqN, kx_nil, kx_c1, kx_ft, kx_aI, kx_aL, kx_aR, kx_ln, Nat.reduceAdd, Option.toList, List.cons_append, List.nil_append, cf4_5, cf4_3]
    repeat (simp only [hO, ks_eq, ks_ss]; try dsimp only [kx_wp, kx_step, kx_lI, kx_lL, kx_lA, kx_gl, kx_pI, kx_pL, kx_pR, kx_pA, kx_pV, kx_s1, kx_s2, kx_sl, kx_pre, kx_c2, kx_pl, kx_cmp, kx_oF, kx_eqN, kx_nil, kx_c1, kx_ft, kx_aI, kx_aL, kx_aR, kx_ln, Nat.reduceAdd, Option.toList, List.cons_append, List.nil_append, cf4_5, cf4_3])
    all_goals (repeat' apply And.intro)
    all_goals ((try clear hB hC); first | exact True.intro | with_reducible rfl | with_reducible assumption | (with_reducible refine vp_in_nI ?_ ?_ <;> first | omega | decide) | exact Nat.le_of_ble_eq_true rfl | (with_reducible refine ck_nzI ?_; simp; done) | (with_reducible refine ck_nzL ?_; simp; done) | (simp only [pk_us, pk_uLs, eq_true ze5, ↓reduceIte, not_true_eq_false, not_false_eq_true]; done) | (simp only [eq_true ze5, ↓reduceIte, not_true_eq_false, not_false_eq_true]; with_reducible rfl) | omega | skip)

set_option maxRecDepth 100000 in
set_option maxHeartbeats 4000000 in
theorem ct_X4_woundAt_b (l : Launch) (G : kx_G) {P : kx_P} {sz : Nat} {nt : Nat} {F WS N : Nat → Int32} {ws : Nat → Nat} {n days many se : Nat} (hp : cp_H P nt F WS N ws n days many) (hF : F 7 = nI se) (hse : se ≤ 1000) (hv : cp_nv ws n many days se N) {st : Nat} (ho : cp_ok n days st) (h5 : F 5 = nI st) (hfe : ¬ cp_fw ws n many days st < 63) {x : Int32}  : kx_Mn l G sX4_woundAt 26 0 0 [.ref 81, .int (x)] P sz (fun rr P2 s2 => rr = some (.int (-1)) ∧ (∃ N2, P2 = kx_set P nt (kI 0 39973 N2) ∧ cp_nv ws n many days se N2) ∧ sz = s2) := by
  have hm9 := ct_X4_windings l G (sz := sz) hp hF hse hv ho h5
  rw [if_neg hfe] at hm9
  refine kx_mkn kx_tab kxLok_X4 (ini := false) [some (.ref 81), some (.int (x)), none, none, none] ⟨by decide, rfl, by decide, by decide⟩ (fun _ _ _ h => ⟨_, h.1⟩) rfl rfl (fun g hB hC hN => ?_)
  refine hB bX4_woundAt_0 _ _ _ _ _ _ _ kX4_woundAt_0 ?_
  dsimp only [bX4_woundAt_0, kx_wp, kx_step, kx_lI, kx_lL, kx_lA, kx_gl, kx_pI, kx_pL, kx_pR, kx_pA, kx_pV, kx_s1, kx_s2, kx_sl, kx_pre, kx_c2, kx_pl, kx_cmp, kx_oF, kx_eqN, kx_nil, kx_c1, kx_ft, kx_aI, kx_aL, kx_aR, kx_ln, Nat.reduceAdd, Option.toList, List.cons_append, List.nil_append, cf4_5, cf4_3]
  repeat (simp only [ks_eq, ks_ss]; try dsimp only [kx_wp, kx_step, kx_lI, kx_lL, kx_lA, kx_gl, kx_pI, kx_pL, kx_pR, kx_pA, kx_pV, kx_s1, kx_s2, kx_sl, kx_pre, kx_c2, kx_pl, kx_cmp, kx_oF, kx_eqN, kx_nil, kx_c1, kx_ft, kx_aI, kx_aL, kx_aR, kx_ln, Nat.reduceAdd, Option.toList, List.cons_append, List.nil_append, cf4_5, cf4_3])
  repeat' apply And.intro
  all_goals try (first | with_reducible assumption | (with_reducible refine ck_nzI ?_; simp; done) | (with_reducible refine ck_nzL ?_; simp; done) | (with_reducible refine vp_in_nI ?_ ?_ <;> first | omega | decide) | (with_reducible refine Nat.le_of_ble_eq_true ?_; rfl) | omega | exact Or.inl trivial | exact Or.inr trivial | exact Or.inl rfl | exact Or.inr rfl)
  refine hN.1 65 _ _ _ _ _ _ _ 4 _ _ _ _ _ _ _ _ _ _ lX4_65 (hm9) ⟨by decide, rfl⟩ (hp.1) rfl rfl (Nat.le_of_ble_eq_true rfl) (by omega) (by decide) (by omega) (by omega) dX4_woundAt_1 ?_
  rintro r2 P2 s2 ⟨rfl, hN2, rfl⟩
  dsimp only [Option.toList, List.cons_append, List.nil_append]
  refine hB bX4_woundAt_4 _ _ _ _ _ _ _ kX4_woundAt_4 ?_
  dsimp only [bX4_woundAt_4, kx_wp, kx_step, kx_lI, kx_lL, kx_lA, kx_gl, kx_pI, kx_pL, kx_pR, kx_pA, kx_pV, kx_s1, kx_s2, kx_sl, kx_pre, kx_c2, kx_pl, kx_cmp, kx_oF, kx_eqN, kx_nil, kx_c1, kx_ft, kx_aI, kx_aL, kx_aR, kx_ln, Nat.reduceAdd, Option.toList, List.cons_append, List.nil_append, cf4_5, cf4_3]
  repeat (simp only [ks_eq, ks_ss]; try dsimp only [kx_wp, kx_step, kx_lI, kx_lL, kx_lA, kx_gl, kx_pI, kx_pL, kx_pR, kx_pA, kx_pV, kx_s1, kx_s2, kx_sl, kx_pre, kx_c2, kx_pl, kx_cmp, kx_oF, kx_eqN, kx_nil, kx_c1, kx_ft, kx_aI, kx_aL, kx_aR, kx_ln, Nat.reduceAdd, Option.toList, List.cons_append, List.nil_append, cf4_5, cf4_3])
  repeat' apply And.intro
  all_goals try (first | with_reducible assumption | (with_reducible refine ck_nzI ?_; simp; done) | (with_reducible refine ck_nzL ?_; simp; done) | (with_reducible refine vp_in_nI ?_ ?_ <;> first | omega | decide) | (with_reducible refine Nat.le_of_ble_eq_true ?_; rfl) | omega | exact Or.inl trivial | exact Or.inr trivial | exact Or.inl rfl | exact Or.inr rfl)
  · intro zc5
    first | exact absurd rfl zc5 | exact absurd zc5 (by decide) | exact absurd (by decide) zc5 | (exfalso; exact zc5 rfl) | (exfalso; simp_all; done)
  · intro zc5
    with_reducible first | have ze5 := Decidable.not_not.mp zc5 | have ze5 := zc5
    refine hB bX4_woundAt_8 _ _ _ _ _ _ _ kX4_woundAt_8 ?_
    dsimp only [bX4_woundAt_8, kx_wp, kx_step, kx_lI, kx_lL, kx_lA, kx_gl, kx_pI, kx_pL, kx_pR, kx_pA, kx_pV, kx_s1, kx_s2, kx_sl, kx_pre, kx_c2, kx_pl, kx_cmp, kx_oF, kx_eqN, kx_nil, kx_c1, kx_ft, kx_aI, kx_aL, kx_aR, kx_ln, Nat.reduceAdd, Option.toList, List.cons_append, List.nil_append, cf4_5, cf4_3]
    repeat (simp only [ks_eq, ks_ss]; try dsimp only [kx_wp, kx_step, kx_lI, kx_lL, kx_lA, kx_gl, kx_pI, kx_pL, kx_pR, kx_pA, kx_pV, kx_s1, kx_s2, kx_sl, kx_pre, kx_c2, kx_pl, kx_cmp, kx_oF, kx_eqN, kx_nil, kx_c1, kx_ft, kx_aI, kx_aL, kx_aR, kx_ln, Nat.reduceAdd, Option.toList, List.cons_append, List.nil_append, cf4_5, cf4_3])
    all_goals (repeat' apply And.intro)
    all_goals ((try clear hB hC); first | exact True.intro | rfl | exact hN2)

def bX10_plan_0 : List kx_O := [(.aload_n 0, 0, 0, 0, .null), (.iload_n 1, 1, 0, 0, .null), (.iconst 4, 0, 0, 0, .int 4)]
theorem kX10_plan_0 : kx_oks kxL_X10 false cX10_plan 0 bX10_plan_0 = true := by decide +kernel
def bX10_plan_6 : List kx_O := [(.ifCond .eq 18, 24, 0, 0, .null)]
theorem kX10_plan_6 : kx_oks kxL_X10 false cX10_plan 6 bX10_plan_6 = true := by decide +kernel
def bX10_plan_9 : List kx_O := [(.iload_n 2, 2, 0, 0, .null), (.iconst 1, 0, 0, 0, .int 1), (.if_icmp .lt 13, 24, 0, 0, .null)]
theorem kX10_plan_9 : kx_oks kxL_X10 false cX10_plan 9 bX10_plan_9 = true := by decide +kernel
def bX10_plan_14 : List kx_O := [(.iload_n 2, 2, 0, 0, .null), (.bipush 10, 0, 0, 0, .int 10), (.if_icmp .gt 7, 24, 0, 0, .null)]
theorem kX10_plan_14 : kx_oks kxL_X10 false cX10_plan 14 bX10_plan_14 = true := by decide +kernel
def bX10_plan_20 : List kx_O := [(.iconst 1, 0, 0, 0, .int 1), (.goto 4, 25, 0, 0, .null)]
theorem kX10_plan_20 : kx_oks kxL_X10 false cX10_plan 20 bX10_plan_20 = true := by decide +kernel
def bX10_plan_24 : List kx_O := [(.iconst 0, 0, 0, 0, .int 0)]
theorem kX10_plan_24 : kx_oks kxL_X10 false cX10_plan 24 bX10_plan_24 = true := by decide +kernel
def bX10_plan_28 : List kx_O := [(.iload_n 3, 3, 0, 0, .null), (.iconst 1, 0, 0, 0, .int 1), (.if_icmp .eq 8, 38, 0, 0, .null)]
theorem kX10_plan_28 : kx_oks kxL_X10 false cX10_plan 28 bX10_plan_28 = true := by decide +kernel
def bX10_plan_33 : List kx_O := [(.iload_n 3, 3, 0, 0, .null), (.iconst 2, 0, 0, 0, .int 2), (.if_icmp .ne 18, 53, 0, 0, .null)]
theorem kX10_plan_33 : kx_oks kxL_X10 false cX10_plan 33 bX10_plan_33 = true := by decide +kernel
def bX10_plan_38 : List kx_O := [(.iload 4, 4, 0, 0, .null), (.ifCond .lt 13, 53, 0, 0, .null)]
theorem kX10_plan_38 : kx_oks kxL_X10 false cX10_plan 38 bX10_plan_38 = true := by decide +kernel
def bX10_plan_43 : List kx_O := [(.iload 4, 4, 0, 0, .null), (.iload_n 2, 2, 0, 0, .null), (.if_icmp .gt 7, 53, 0, 0, .null)]
theorem kX10_plan_43 : kx_oks kxL_X10 false cX10_plan 43 bX10_plan_43 = true := by decide +kernel
def bX10_plan_49 : List kx_O := [(.iconst 1, 0, 0, 0, .int 1), (.goto 4, 54, 0, 0, .null)]
theorem kX10_plan_49 : kx_oks kxL_X10 false cX10_plan 49 bX10_plan_49 = true := by decide +kernel
def bX10_plan_53 : List kx_O := [(.iconst 0, 0, 0, 0, .int 0)]
theorem kX10_plan_53 : kx_oks kxL_X10 false cX10_plan 53 bX10_plan_53 = true := by decide +kernel
def bX10_plan_57 : List kx_O := [(.aload_n 0, 0, 0, 0, .null), (.getfield 77, 10, 13, 0, .null), (.aload_n 0, 0, 0, 0, .null), (.getfield 40, 10, 6, 0, .null), (.iload_n 1, 1, 0, 0, .null), (.iload_n 2, 2, 0, 0, .null), (.iload_n 3, 3, 0, 0, .null)]
theorem kX10_plan_57 : kx_oks kxL_X10 false cX10_plan 57 bX10_plan_57 = true := by decide +kernel
def bX10_plan_71 : List kx_O := [(.iload 4, 4, 0, 0, .null), (.ifCond .ne 13, 86, 0, 0, .null)]
theorem kX10_plan_71 : kx_oks kxL_X10 false cX10_plan 71 bX10_plan_71 = true := by decide +kernel
def bX10_plan_76 : List kx_O := [(.aload_n 0, 0, 0, 0, .null), (.getfield 77, 10, 13, 0, .null)]
theorem kX10_plan_76 : kx_oks kxL_X10 false cX10_plan 76 bX10_plan_76 = true := by decide +kernel
def bX10_plan_83 : List kx_O := [(.goto 14, 97, 0, 0, .null)]
theorem kX10_plan_83 : kx_oks kxL_X10 false cX10_plan 83 bX10_plan_83 = true := by decide +kernel
def bX10_plan_86 : List kx_O := [(.aload_n 0, 0, 0, 0, .null), (.getfield 77, 10, 13, 0, .null), (.iload 4, 4, 0, 0, .null), (.iconst 1, 0, 0, 0, .int 1), (.isub, 0, 0, 0, .null)]
theorem kX10_plan_86 : kx_oks kxL_X10 false cX10_plan 86 bX10_plan_86 = true := by decide +kernel
def bX10_plan_97 : List kx_O := [(.ireturn, 0, 0, 0, .null)]
theorem kX10_plan_97 : kx_oks kxL_X10 false cX10_plan 97 bX10_plan_97 = true := by decide +kernel
theorem dX10_plan_3 : decode cX10_plan 3 = .ok (.invokevirtual 261, 3) := by decide +kernel
theorem dX10_plan_25 : decode cX10_plan 25 = .ok (.invokestatic 95, 3) := by decide +kernel
theorem dX10_plan_54 : decode cX10_plan 54 = .ok (.invokestatic 95, 3) := by decide +kernel
theorem dX10_plan_68 : decode cX10_plan 68 = .ok (.invokevirtual 281, 3) := by decide +kernel
theorem dX10_plan_80 : decode cX10_plan 80 = .ok (.invokevirtual 283, 3) := by decide +kernel
theorem dX10_plan_94 : decode cX10_plan 94 = .ok (.invokevirtual 286, 3) := by decide +kernel
set_option maxRecDepth 100000 in
set_option maxHeartbeats 4000000 in
theorem ct_X10_plan_r0 (l : Launch) (G : kx_G) {P : kx_P} {sz : Nat} {sv : Value} {K : Nat → Int32} (h64 : P 64 = kO 10 (kf (cr10 sv) K)) {Fp NU WS : Nat → Int32} (h82 : P 82 = kI 0 4 NU) (h83 : P 83 = kI 0 4 WS) (hnf : P 2 = kI 5 11 cj_nf) {cl : Nat} (hcl : cl ≤ 8) {cn wn : Nat → Nat} {DD : Nat → Int64} {HH : Nat → Value} {CC VV : Nat → Nat → Int32} (hCS : cx_CS P cl cn wn DD HH CC VV) {lf run : Nat → Nat} (hlr : ∀ i, i < cl → CC i 6 = nI (lf i) ∧ lf i ≤ 44640 ∧ VV i 0 = nI (run i) ∧ 1 ≤ run i ∧ run i ≤ 31) {s days many se : Nat} (hs : s < 2 ^ cl) (hs4 : ck_pc s ≤ 4) (hd : 1 ≤ days ∧ days ≤ 10) (hmn : many = 1 ∨ many = 2) (h7 : Fp 7 = nI se) (hse : se ≤ 999) (hac : cx_ac (nI s) (K 7) 4 = 1) {nt : Nat} (h81 : P 81 = kO 4 (kf (cr4 (.ref nt)) Fp)) (hnt : 144 ≤ nt) {N : Nat → Int32} (hN : P nt = kI 0 39973 N) (hNe : ∀ i, i < 39973 → ∃ e : Nat, N i = nI e ∧ e < 64 * (se + 1))  : kx_Mn l G sX10_plan 30 0 0 [.ref 64, .int (nI s), .int (nI days), .int (nI many), .int (0)] P sz (fun r P2 s2 => r = some (.int (cx_plv NU WS run lf s days many 0)) ∧ (∃ N2, P2 = kx_set (jW P (.ref nt) (cp_Fc Fp days many se lf s 8) (ck_pcl NU s 8) (cp_wsl WS run s 8)) nt (kI 0 39973 N2) ∧ ∀ i, i < 39973 → ∃ e : Nat, N2 i = nI e ∧ e < 64 * (se + 2)) ∧ s2 = sz) := by
  have hJ : jW P (.ref nt) Fp NU WS = P := by unfold jW; rw [ks_id h82, ks_id h83, ks_id h81]
  have hb9 := ct_X4_begin_r l G (sz := sz) hcl hCS hlr (F := Fp) (NU := NU) (WS := WS) (many := many) hs hs4 hd h7 (by omega : se ≤ 1000) (nt := nt)
  rw [hJ] at hb9
  have h144 : 144 ≤ nt := hnt
  have s256 : s < 256 := Nat.lt_of_lt_of_le hs (Nat.le_trans (Nat.pow_le_pow_right (n := 2) (by decide) hcl) (by decide))
  have hct : ck_ct s 8 = ck_pc s := ck_ct_pc 8 (by omega) s s256
  have h64s : (jW P (.ref nt) (cp_Fc Fp days many se lf s 8) (ck_pcl NU s 8) (cp_wsl WS run s 8)) 64 = kO 10 (kf (cr10 sv) K) := (jW_o (by decide) (by decide) (by decide)).trans (h64)
  have hp9 : cp_H (jW P (.ref nt) (cp_Fc Fp days many se lf s 8) (ck_pcl NU s 8) (cp_wsl WS run s 8)) nt (cp_Fc Fp days many se lf s 8) (cp_wsl WS run s 8) N (cx_ws WS run s) (ck_ct s 8) days many := by
    refine ⟨jW_81, jW_83, (jW_o (by decide) (by decide) (by decide)).trans (hnf), (jW_o (by omega) (by omega) (by omega)).trans (hN), h144, rfl, by omega, rfl, hd.2, rfl, by omega, fun i hi => ?_⟩
    obtain ⟨v9, h1, h2⟩ := cp_wsl_ok (WS := WS) (run := run) (s := s) 8 (fun j hj hb => by
      by_cases hjc : j < cl
      · exact (hlr j hjc).2.2.2.2
      · exact absurd hb (by rw [cp_bt0 s s256 cl hcl hs j hj (by omega)]; decide)) i hi
    have h3 : cx_ws WS run s i = v9 := by unfold cx_ws; rw [h2]; exact nI_clamp (by omega)
    rw [h3]
    exact ⟨h2, h1⟩
  have hv9 : cp_nv (cx_ws WS run s) (ck_ct s 8) many days (se + 1) N := cp_nv0 hNe (by omega) hd.2 (by omega)
  have hF7 : cp_Fc Fp days many se lf s 8 7 = nI (se + 1) := rfl
  have hst9 : ∀ N2, cp_nv (cx_ws WS run s) (ck_ct s 8) many days (se + 1) N2 → ∀ i, i < 39973 → ∃ e : Nat, N2 i = nI e ∧ e < 64 * (se + 2) := fun N2 h => h.1
  refine kx_mkn kx_tab kxLok_X10 (ini := false) [some (.ref 64), some (.int (nI s)), some (.int (nI days)), some (.int (nI many)), some (.int (0))] ⟨by decide, rfl, by decide, by decide⟩ (fun _ _ _ h => ⟨_, h.1⟩) rfl rfl (fun g hB hC hN => ?_)
  have hgo : (cp_stl lf days s 8 = none) ∨ (∃ st, cp_stl lf days s 8 = some st) := by
    cases hst : cp_stl lf days s 8 with
    | none => exact Or.inl rfl
    | some st => exact Or.inr ⟨st, rfl⟩
  have h71 : g 71 [some (.ref 64), some (.int (nI s)), some (.int (nI days)), some (.int (nI many)), some (.int (0))] [] (jW P (.ref nt) (cp_Fc Fp days many se lf s 8) (ck_pcl NU s 8) (cp_wsl WS run s 8)) sz 0 0 := by
    rcases hgo with hst | ⟨st, hst⟩
    · have h5 : cp_Fc Fp days many se lf s 8 5 = -1 := by
        show cp_oi (cp_stl lf days s 8) = -1
        rw [hst]
        rfl
      have hid : kx_set (jW P (.ref nt) (cp_Fc Fp days many se lf s 8) (ck_pcl NU s 8) (cp_wsl WS run s 8)) nt (kI 0 39973 N) = (jW P (.ref nt) (cp_Fc Fp days many se lf s 8) (ck_pcl NU s 8) (cp_wsl WS run s 8)) := ks_id hp9.2.2.2.1
      have hN9 : ∃ N2, (jW P (.ref nt) (cp_Fc Fp days many se lf s 8) (ck_pcl NU s 8) (cp_wsl WS run s 8)) = kx_set (jW P (.ref nt) (cp_Fc Fp days many se lf s 8) (ck_pcl NU s 8) (cp_wsl WS run s 8)) nt (kI 0 39973 N2) ∧ ∀ i, i < 39973 → ∃ e : Nat, N2 i = nI e ∧ e < 64 * (se + 2) := ⟨N, hid.symm, hst9 _ hv9⟩
      have hre : some (Value.int (-1)) = some (.int (cx_plv NU WS run lf s days many 0)) := by rw [cx_plv_n hst]
      refine hB bX10_plan_71 _ _ _ _ _ _ _ kX10_plan_71 ?_
      dsimp only [bX10_plan_71, kx_wp, kx_step, kx_lI, kx_lL, kx_lA, kx_gl, kx_pI, kx_pL, kx_pR, kx_pA, kx_pV, kx_s1, kx_s2, kx_sl, kx_pre, kx_c2, kx_pl, kx_cmp, kx_oF, kx_eqN, kx_nil, kx_c1, kx_ft, kx_aI, kx_aL, kx_aR, kx_ln, Nat.reduceAdd, Option.toList, List.cons_append, List.nil_append, cf10_13, cf10_6]
      repeat (simp only [h64, h64s, h81, ks_eq, ks_ss]; try dsimp only [kx_wp, kx_step, kx_lI, kx_lL, kx_lA, kx_gl, kx_pI, kx_pL, kx_pR, kx_pA, kx_pV, kx_s1, kx_s2, kx_sl, kx_pre, kx_c2, kx_pl, kx_cmp, kx_oF, kx_eqN, kx_nil, kx_c1, kx_ft, kx_aI, kx_aL, kx_aR, kx_ln, Nat.reduceAdd, Option.toList, List.cons_append, List.nil_append, cf10_13, cf10_6])
      repeat' apply And.intro
      all_goals try (first | with_reducible assumption | (with_reducible refine ck_nzI ?_; simp; done) | (with_reducible refine ck_nzL ?_; simp; done) | (with_reducible refine vp_in_nI ?_ ?_ <;> first | omega | decide) | (with_reducible refine Nat.le_of_ble_eq_true ?_; rfl) | omega | exact Or.inl trivial | exact Or.inr trivial | exact Or.inl rfl | exact Or.inr rfl)
      · intro zc73
        first | exact absurd rfl zc73 | exact absurd zc73 (by decide) | exact absurd (by decide) zc73 | (exfalso; first | exact absurd zc6 (by decide) | exact absurd ((nI_ltI (a := days) (b := 1) (by omega) (by omega)).mp zc11) (by omega) | exact absurd ((nI_ltI (a := 10) (b := days) (by omega) (by omega)).mp zc17) (by omega) | exact absurd zc40 (by decide) | exact absurd ((nI_ltI (a := wh + 1) (b := 0) (by omega) (by omega)).mp zc40) (by omega) | exact absurd ((nI_ltI (a := days) (b := wh + 1) (by omega) (by omega)).mp zc46) (by omega) | exact absurd ((nI_ltI (a := days) (b := 0) (by omega) (by omega)).mp zc46) (by omega) | exact zc73 rfl | exact absurd zc73 (by decide) | exact absurd ((nI_eq (a := wh + 1) (b := 0) (by omega) (by omega)).mp (Decidable.not_not.mp zc73)) (by omega) | exact zc30 hmn1 | exact absurd zc30 (by rw [hmn1]; decide) | exact absurd zc35 (by rw [hmn1]; decide) | exact absurd zc30 (by rw [hmn1]; decide) | exact zc35 (by rw [hmn1]; rfl) | exact absurd (by rw [hmn1]; rfl) zc35) | (exfalso; simp_all; done)
      · intro zc73
        with_reducible first | have ze73 := Decidable.not_not.mp zc73 | have ze73 := zc73
        refine hB bX10_plan_76 _ _ _ _ _ _ _ kX10_plan_76 ?_
        dsimp only [bX10_plan_76, kx_wp, kx_step, kx_lI, kx_lL, kx_lA, kx_gl, kx_pI, kx_pL, kx_pR, kx_pA, kx_pV, kx_s1, kx_s2, kx_sl, kx_pre, kx_c2, kx_pl, kx_cmp, kx_oF, kx_eqN, kx_nil, kx_c1, kx_ft, kx_aI, kx_aL, kx_aR, kx_ln, Nat.reduceAdd, Option.toList, List.cons_append, List.nil_append, cf10_13, cf10_6]
        repeat (simp only [h64, h64s, h81, ks_eq, ks_ss]; try dsimp only [kx_wp, kx_step, kx_lI, kx_lL, kx_lA, kx_gl, kx_pI, kx_pL, kx_pR, kx_pA, kx_pV, kx_s1, kx_s2, kx_sl, kx_pre, kx_c2, kx_pl, kx_cmp, kx_oF, kx_eqN, kx_nil, kx_c1, kx_ft, kx_aI, kx_aL, kx_aR, kx_ln, Nat.reduceAdd, Option.toList, List.cons_append, List.nil_append, cf10_13, cf10_6])
        repeat' apply And.intro
        all_goals try (first | with_reducible assumption | (with_reducible refine ck_nzI ?_; simp; done) | (with_reducible refine ck_nzL ?_; simp; done) | (with_reducible refine vp_in_nI ?_ ?_ <;> first | omega | decide) | (with_reducible refine Nat.le_of_ble_eq_true ?_; rfl) | omega | exact Or.inl trivial | exact Or.inr trivial | exact Or.inl rfl | exact Or.inr rfl)
        refine hC.1 283 _ _ _ _ _ _ _ 4 _ _ _ _ _ _ _ _ _ _ _ _ lX10_283 (ct_X4_windings_n l G jW_81 h5) ⟨by decide, rfl⟩ (jW_81) rfl rfl (Nat.le_of_ble_eq_true rfl) (by first | decide | omega) (by decide) (by omega) (by omega) dX10_plan_80 ?_
        refine hB bX10_plan_83 _ _ _ _ _ _ _ kX10_plan_83 ?_
        dsimp only [bX10_plan_83, kx_wp, kx_step, kx_lI, kx_lL, kx_lA, kx_gl, kx_pI, kx_pL, kx_pR, kx_pA, kx_pV, kx_s1, kx_s2, kx_sl, kx_pre, kx_c2, kx_pl, kx_cmp, kx_oF, kx_eqN, kx_nil, kx_c1, kx_ft, kx_aI, kx_aL, kx_aR, kx_ln, Nat.reduceAdd, Option.toList, List.cons_append, List.nil_append, cf10_13, cf10_6]
        repeat (simp only [h64, h64s, h81, ks_eq, ks_ss]; try dsimp only [kx_wp, kx_step, kx_lI, kx_lL, kx_lA, kx_gl, kx_pI, kx_pL, kx_pR, kx_pA, kx_pV, kx_s1, kx_s2, kx_sl, kx_pre, kx_c2, kx_pl, kx_cmp, kx_oF, kx_eqN, kx_nil, kx_c1, kx_ft, kx_aI, kx_aL, kx_aR, kx_ln, Nat.reduceAdd, Option.toList, List.cons_append, List.nil_append, cf10_13, cf10_6])
        repeat' apply And.intro
        all_goals try (first | with_reducible assumption | (with_reducible refine ck_nzI ?_; simp; done) | (with_reducible refine ck_nzL ?_; simp; done) | (with_reducible refine vp_in_nI ?_ ?_ <;> first | omega | decide) | (with_reducible refine Nat.le_of_ble_eq_true ?_; rfl) | omega | exact Or.inl trivial | exact Or.inr trivial | exact Or.inl rfl | exact Or.inr rfl)
        refine hB bX10_plan_97 _ _ _ _ _ _ _ kX10_plan_97 ?_
        dsimp only [bX10_plan_97, kx_wp, kx_step, kx_lI, kx_lL, kx_lA, kx_gl, kx_pI, kx_pL, kx_pR, kx_pA, kx_pV, kx_s1, kx_s2, kx_sl, kx_pre, kx_c2, kx_pl, kx_cmp, kx_oF, kx_eqN, kx_nil, kx_c1, kx_ft, kx_aI, kx_aL, kx_aR, kx_ln, Nat.reduceAdd, Option.toList, List.cons_append, List.nil_append, cf10_13, cf10_6]
        repeat (simp only [h64, h64s, h81, ks_eq, ks_ss]; try dsimp only [kx_wp, kx_step, kx_lI, kx_lL, kx_lA, kx_gl, kx_pI, kx_pL, kx_pR, kx_pA, kx_pV, kx_s1, kx_s2, kx_sl, kx_pre, kx_c2, kx_pl, kx_cmp, kx_oF, kx_eqN, kx_nil, kx_c1, kx_ft, kx_aI, kx_aL, kx_aR, kx_ln, Nat.reduceAdd, Option.toList, List.cons_append, List.nil_append, cf10_13, cf10_6])
        all_goals (repeat' apply And.intro)
        all_goals ((try clear hB hC); first | exact True.intro | rfl | exact hre | exact hN9)
    · have h5 : cp_Fc Fp days many se lf s 8 5 = nI st := by
        show cp_oi (cp_stl lf days s 8) = nI st
        rw [hst]
        rfl
      have hok := cp_stl_ok (lf := lf) (days := days) (s := s) hd.2 8 st hst
      have hm9 := ct_X4_windings l G (sz := sz) hp9 hF7 (by omega) hv9 hok h5
      have hre : some (Value.int (if cp_fw (cx_ws WS run s) (ck_ct s 8) many days st < 63 then nI (cp_fw (cx_ws WS run s) (ck_ct s 8) many days st) else -1)) = some (.int (cx_plv NU WS run lf s days many 0)) := by rw [cx_plv_0 hst]
      refine hB bX10_plan_71 _ _ _ _ _ _ _ kX10_plan_71 ?_
      dsimp only [bX10_plan_71, kx_wp, kx_step, kx_lI, kx_lL, kx_lA, kx_gl, kx_pI, kx_pL, kx_pR, kx_pA, kx_pV, kx_s1, kx_s2, kx_sl, kx_pre, kx_c2, kx_pl, kx_cmp, kx_oF, kx_eqN, kx_nil, kx_c1, kx_ft, kx_aI, kx_aL, kx_aR, kx_ln, Nat.reduceAdd, Option.toList, List.cons_append, List.nil_append, cf10_13, cf10_6]
      repeat (simp only [h64, h64s, h81, ks_eq, ks_ss]; try dsimp only [kx_wp, kx_step, kx_lI, kx_lL, kx_lA, kx_gl, kx_pI, kx_pL, kx_pR, kx_pA, kx_pV, kx_s1, kx_s2, kx_sl, kx_pre, kx_c2, kx_pl, kx_cmp, kx_oF, kx_eqN, kx_nil, kx_c1, kx_ft, kx_aI, kx_aL, kx_aR, kx_ln, Nat.reduceAdd, Option.toList, List.cons_append, List.nil_append, cf10_13, cf10_6])
      repeat' apply And.intro
      all_goals try (first | with_reducible assumption | (with_reducible refine ck_nzI ?_; simp; done) | (with_reducible refine ck_nzL ?_; simp; done) | (with_reducible refine vp_in_nI ?_ ?_ <;> first | omega | decide) | (with_reducible refine Nat.le_of_ble_eq_true ?_; rfl) | omega | exact Or.inl trivial | exact Or.inr trivial | exact Or.inl rfl | exact Or.inr rfl)
      · intro zc73
        first | exact absurd rfl zc73 | exact absurd zc73 (by decide) | exact absurd (by decide) zc73 | (exfalso; first | exact absurd zc6 (by decide) | exact absurd ((nI_ltI (a := days) (b := 1) (by omega) (by omega)).mp zc11) (by omega) | exact absurd ((nI_ltI (a := 10) (b := days) (by omega) (by omega)).mp zc17) (by omega) | exact absurd zc40 (by decide) | exact absurd ((nI_ltI (a := wh + 1) (b := 0) (by omega) (by omega)).mp zc40) (by omega) | exact absurd ((nI_ltI (a := days) (b := wh + 1) (by omega) (by omega)).mp zc46) (by omega) | exact absurd ((nI_ltI (a := days) (b := 0) (by omega) (by omega)).mp zc46) (by omega) | exact zc73 rfl | exact absurd zc73 (by decide) | exact absurd ((nI_eq (a := wh + 1) (b := 0) (by omega) (by omega)).mp (Decidable.not_not.mp zc73)) (by omega) | exact zc30 hmn1 | exact absurd zc30 (by rw [hmn1]; decide) | exact absurd zc35 (by rw [hmn1]; decide) | exact absurd zc30 (by rw [hmn1]; decide) | exact zc35 (by rw [hmn1]; rfl) | exact absurd (by rw [hmn1]; rfl) zc35) | (exfalso; simp_all; done)
      · intro zc73
        with_reducible first | have ze73 := Decidable.not_not.mp zc73 | have ze73 := zc73
        refine hB bX10_plan_76 _ _ _ _ _ _ _ kX10_plan_76 ?_
        dsimp only [bX10_plan_76, kx_wp, kx_step, kx_lI, kx_lL, kx_lA, kx_gl, kx_pI, kx_pL, kx_pR, kx_pA, kx_pV, kx_s1, kx_s2, kx_sl, kx_pre, kx_c2, kx_pl, kx_cmp, kx_oF, kx_eqN, kx_nil, kx_c1, kx_ft, kx_aI, kx_aL, kx_aR, kx_ln, Nat.reduceAdd, Option.toList, List.cons_append, List.nil_append, cf10_13, cf10_6]
        repeat (simp only [h64, h64s, h81, ks_eq, ks_ss]; try dsimp only [kx_wp, kx_step, kx_lI, kx_lL, kx_lA, kx_gl, kx_pI, kx_pL, kx_pR, kx_pA, kx_pV, kx_s1, kx_s2, kx_sl, kx_pre, kx_c2, kx_pl, kx_cmp, kx_oF, kx_eqN, kx_nil, kx_c1, kx_ft, kx_aI, kx_aL, kx_aR, kx_ln, Nat.reduceAdd, Option.toList, List.cons_append, List.nil_append, cf10_13, cf10_6])
        repeat' apply And.intro
        all_goals try (first | with_reducible assumption | (with_reducible refine ck_nzI ?_; simp; done) | (with_reducible refine ck_nzL ?_; simp; done) | (with_reducible refine vp_in_nI ?_ ?_ <;> first | omega | decide) | (with_reducible refine Nat.le_of_ble_eq_true ?_; rfl) | omega | exact Or.inl trivial | exact Or.inr trivial | exact Or.inl rfl | exact Or.inr rfl)
        refine hN.1 283 _ _ _ _ _ _ _ 4 _ _ _ _ _ _ _ _ _ _ lX10_283 (hm9) ⟨by decide, rfl⟩ (jW_81) rfl rfl (Nat.le_of_ble_eq_true rfl) (by omega) (by decide) (by omega) (by omega) dX10_plan_80 ?_
        rintro r2 P2 s2 ⟨rfl, ⟨N2, rfl, hN2⟩, rfl⟩
        have hN9 : ∃ N3, kx_set (jW P (.ref nt) (cp_Fc Fp days many se lf s 8) (ck_pcl NU s 8) (cp_wsl WS run s 8)) nt (kI 0 39973 N2) = kx_set (jW P (.ref nt) (cp_Fc Fp days many se lf s 8) (ck_pcl NU s 8) (cp_wsl WS run s 8)) nt (kI 0 39973 N3) ∧ ∀ i, i < 39973 → ∃ e : Nat, N3 i = nI e ∧ e < 64 * (se + 2) := ⟨N2, rfl, hst9 _ hN2⟩
        dsimp only [Option.toList, List.cons_append, List.nil_append]
        refine hB bX10_plan_83 _ _ _ _ _ _ _ kX10_plan_83 ?_
        dsimp only [bX10_plan_83, kx_wp, kx_step, kx_lI, kx_lL, kx_lA, kx_gl, kx_pI, kx_pL, kx_pR, kx_pA, kx_pV, kx_s1, kx_s2, kx_sl, kx_pre, kx_c2, kx_pl, kx_cmp, kx_oF, kx_eqN, kx_nil, kx_c1, kx_ft, kx_aI, kx_aL, kx_aR, kx_ln, Nat.reduceAdd, Option.toList, List.cons_append, List.nil_append, cf10_13, cf10_6]
        repeat (simp only [h64, h64s, h81, ks_eq, ks_ss]; try dsimp only [kx_wp, kx_step, kx_lI, kx_lL, kx_lA, kx_gl, kx_pI, kx_pL, kx_pR, kx_pA, kx_pV, kx_s1, kx_s2, kx_sl, kx_pre, kx_c2, kx_pl, kx_cmp, kx_oF, kx_eqN, kx_nil, kx_c1, kx_ft, kx_aI, kx_aL, kx_aR, kx_ln, Nat.reduceAdd, Option.toList, List.cons_append, List.nil_append, cf10_13, cf10_6])
        repeat' apply And.intro
        all_goals try (first | with_reducible assumption | (with_reducible refine ck_nzI ?_; simp; done) | (with_reducible refine ck_nzL ?_; simp; done) | (with_reducible refine vp_in_nI ?_ ?_ <;> first | omega | decide) | (with_reducible refine Nat.le_of_ble_eq_true ?_; rfl) | omega | exact Or.inl trivial | exact Or.inr trivial | exact Or.inl rfl | exact Or.inr rfl)
        refine hB bX10_plan_97 _ _ _ _ _ _ _ kX10_plan_97 ?_
        dsimp only [bX10_plan_97, kx_wp, kx_step, kx_lI, kx_lL, kx_lA, kx_gl, kx_pI, kx_pL, kx_pR, kx_pA, kx_pV, kx_s1, kx_s2, kx_sl, kx_pre, kx_c2, kx_pl, kx_cmp, kx_oF, kx_eqN, kx_nil, kx_c1, kx_ft, kx_aI, kx_aL, kx_aR, kx_ln, Nat.reduceAdd, Option.toList, List.cons_append, List.nil_append, cf10_13, cf10_6]
        repeat (simp only [h64, h64s, h81, ks_eq, ks_ss]; try dsimp only [kx_wp, kx_step, kx_lI, kx_lL, kx_lA, kx_gl, kx_pI, kx_pL, kx_pR, kx_pA, kx_pV, kx_s1, kx_s2, kx_sl, kx_pre, kx_c2, kx_pl, kx_cmp, kx_oF, kx_eqN, kx_nil, kx_c1, kx_ft, kx_aI, kx_aL, kx_aR, kx_ln, Nat.reduceAdd, Option.toList, List.cons_append, List.nil_append, cf10_13, cf10_6])
        all_goals (repeat' apply And.intro)
        all_goals ((try clear hB hC); first | exact True.intro | rfl | exact hre | exact hN9)
  rcases hmn with hmn1 | hmn1
  · refine hB bX10_plan_0 _ _ _ _ _ _ _ kX10_plan_0 ?_
    dsimp only [bX10_plan_0, kx_wp, kx_step, kx_lI, kx_lL, kx_lA, kx_gl, kx_pI, kx_pL, kx_pR, kx_pA, kx_pV, kx_s1, kx_s2, kx_sl, kx_pre, kx_c2, kx_pl, kx_cmp, kx_oF, kx_eqN, kx_nil, kx_c1, kx_ft, kx_aI, kx_aL, kx_aR, kx_ln, Nat.reduceAdd, Option.toList, List.cons_append, List.nil_append, cf10_13, cf10_6]
    repeat (simp only [h64, h64s, h81, ks_eq, ks_ss]; try dsimp only [kx_wp, kx_step, kx_lI, kx_lL, kx_lA, kx_gl, kx_pI, kx_pL, kx_pR, kx_pA, kx_pV, kx_s1, kx_s2, kx_sl, kx_pre, kx_c2, kx_pl, kx_cmp, kx_oF, kx_eqN, kx_nil, kx_c1, kx_ft, kx_aI, kx_aL, kx_aR, kx_ln, Nat.reduceAdd, Option.toList, List.cons_append, List.nil_append, cf10_13, cf10_6])
    repeat' apply And.intro
    all_goals try (first | with_reducible assumption | (with_reducible refine ck_nzI ?_; simp; done) | (with_reducible refine ck_nzL ?_; simp; done) | (with_reducible refine vp_in_nI ?_ ?_ <;> first | omega | decide) | (with_reducible refine Nat.le_of_ble_eq_true ?_; rfl) | omega | exact Or.inl trivial | exact Or.inr trivial | exact Or.inl rfl | exact Or.inr rfl)
    refine hC.1 261 _ _ _ _ _ _ _ 10 _ _ _ _ _ _ _ _ _ _ _ _ lX10_261 (ct_X10_areClocks l G h64) ⟨by decide, rfl⟩ (h64) rfl rfl (Nat.le_of_ble_eq_true rfl) (by first | decide | omega) (by decide) (by omega) (by omega) dX10_plan_3 ?_
    rw [hac]
    refine hB bX10_plan_6 _ _ _ _ _ _ _ kX10_plan_6 ?_
    dsimp only [bX10_plan_6, kx_wp, kx_step, kx_lI, kx_lL, kx_lA, kx_gl, kx_pI, kx_pL, kx_pR, kx_pA, kx_pV, kx_s1, kx_s2, kx_sl, kx_pre, kx_c2, kx_pl, kx_cmp, kx_oF, kx_eqN, kx_nil, kx_c1, kx_ft, kx_aI, kx_aL, kx_aR, kx_ln, Nat.reduceAdd, Option.toList, List.cons_append, List.nil_append, cf10_13, cf10_6]
    repeat (simp only [h64, h64s, h81, ks_eq, ks_ss]; try dsimp only [kx_wp, kx_step, kx_lI, kx_lL, kx_lA, kx_gl, kx_pI, kx_pL, kx_pR, kx_pA, kx_pV, kx_s1, kx_s2, kx_sl, kx_pre, kx_c2, kx_pl, kx_cmp, kx_oF, kx_eqN, kx_nil, kx_c1, kx_ft, kx_aI, kx_aL, kx_aR, kx_ln, Nat.reduceAdd, Option.toList, List.cons_append, List.nil_append, cf10_13, cf10_6])
    repeat' apply And.intro
    all_goals try (first | with_reducible assumption | (with_reducible refine ck_nzI ?_; simp; done) | (with_reducible refine ck_nzL ?_; simp; done) | (with_reducible refine vp_in_nI ?_ ?_ <;> first | omega | decide) | (with_reducible refine Nat.le_of_ble_eq_true ?_; rfl) | omega | exact Or.inl trivial | exact Or.inr trivial | exact Or.inl rfl | exact Or.inr rfl)
    · intro zc6
      first | exact absurd rfl zc6 | exact absurd zc6 (by decide) | exact absurd (by decide) zc6 | (exfalso; first | exact absurd zc6 (by decide) | exact absurd ((nI_ltI (a := days) (b := 1) (by omega) (by omega)).mp zc11) (by omega) | exact absurd ((nI_ltI (a := 10) (b := days) (by omega) (by omega)).mp zc17) (by omega) | exact absurd zc40 (by decide) | exact absurd ((nI_ltI (a := wh + 1) (b := 0) (by omega) (by omega)).mp zc40) (by omega) | exact absurd ((nI_ltI (a := days) (b := wh + 1) (by omega) (by omega)).mp zc46) (by omega) | exact absurd ((nI_ltI (a := days) (b := 0) (by omega) (by omega)).mp zc46) (by omega) | exact zc73 rfl | exact absurd zc73 (by decide) | exact absurd ((nI_eq (a := wh + 1) (b := 0) (by omega) (by omega)).mp (Decidable.not_not.mp zc73)) (by omega) | exact zc30 hmn1 | exact absurd zc30 (by rw [hmn1]; decide) | exact absurd zc35 (by rw [hmn1]; decide) | exact absurd zc30 (by rw [hmn1]; decide) | exact zc35 (by rw [hmn1]; rfl) | exact absurd (by rw [hmn1]; rfl) zc35) | (exfalso; simp_all; done)
    · intro zc6
      have ze6 := zc6
      refine hB bX10_plan_9 _ _ _ _ _ _ _ kX10_plan_9 ?_
      dsimp only [bX10_plan_9, kx_wp, kx_step, kx_lI, kx_lL, kx_lA, kx_gl, kx_pI, kx_pL, kx_pR, kx_pA, kx_pV, kx_s1, kx_s2, kx_sl, kx_pre, kx_c2, kx_pl, kx_cmp, kx_oF, kx_eqN, kx_nil, kx_c1, kx_ft, kx_aI, kx_aL, kx_aR, kx_ln, Nat.reduceAdd, Option.toList, List.cons_append, List.nil_append, cf10_13, cf10_6]
      repeat (simp only [h64, h64s, h81, ks_eq, ks_ss]; try dsimp only [kx_wp, kx_step, kx_lI, kx_lL, kx_lA, kx_gl, kx_pI, kx_pL, kx_pR, kx_pA, kx_pV, kx_s1, kx_s2, kx_sl, kx_pre, kx_c2, kx_pl, kx_cmp, kx_oF, kx_eqN, kx_nil, kx_c1, kx_ft, kx_aI, kx_aL, kx_aR, kx_ln, Nat.reduceAdd, Option.toList, List.cons_append, List.nil_append, cf10_13, cf10_6])
      repeat' apply And.intro
      all_goals try (first | with_reducible assumption | (with_reducible refine ck_nzI ?_; simp; done) | (with_reducible refine ck_nzL ?_; simp; done) | (with_reducible refine vp_in_nI ?_ ?_ <;> first | omega | decide) | (with_reducible refine Nat.le_of_ble_eq_true ?_; rfl) | omega | exact Or.inl trivial | exact Or.inr trivial | exact Or.inl rfl | exact Or.inr rfl)
      · intro zc11
        first | exact absurd rfl zc11 | exact absurd zc11 (by decide) | exact absurd (by decide) zc11 | (exfalso; first | exact absurd zc6 (by decide) | exact absurd ((nI_ltI (a := days) (b := 1) (by omega) (by omega)).mp zc11) (by omega) | exact absurd ((nI_ltI (a := 10) (b := days) (by omega) (by omega)).mp zc17) (by omega) | exact absurd zc40 (by decide) | exact absurd ((nI_ltI (a := wh + 1) (b := 0) (by omega) (by omega)).mp zc40) (by omega) | exact absurd ((nI_ltI (a := days) (b := wh + 1) (by omega) (by omega)).mp zc46) (by omega) | exact absurd ((nI_ltI (a := days) (b := 0) (by omega) (by omega)).mp zc46) (by omega) | exact zc73 rfl | exact absurd zc73 (by decide) | exact absurd ((nI_eq (a := wh + 1) (b := 0) (by omega) (by omega)).mp (Decidable.not_not.mp zc73)) (by omega) | exact zc30 hmn1 | exact absurd zc30 (by rw [hmn1]; decide) | exact absurd zc35 (by rw [hmn1]; decide) | exact absurd zc30 (by rw [hmn1]; decide) | exact zc35 (by rw [hmn1]; rfl) | exact absurd (by rw [hmn1]; rfl) zc35) | (exfalso; simp_all; done)
      · intro zc11
        with_reducible first | have ze11 := Int32.not_lt.mp zc11 | have ze11 := zc11
        refine hB bX10_plan_14 _ _ _ _ _ _ _ kX10_plan_14 ?_
        dsimp only [bX10_plan_14, kx_wp, kx_step, kx_lI, kx_lL, kx_lA, kx_gl, kx_pI, kx_pL, kx_pR, kx_pA, kx_pV, kx_s1, kx_s2, kx_sl, kx_pre, kx_c2, kx_pl, kx_cmp, kx_oF, kx_eqN, kx_nil, kx_c1, kx_ft, kx_aI, kx_aL, kx_aR, kx_ln, Nat.reduceAdd, Option.toList, List.cons_append, List.nil_append, cf10_13, cf10_6]
        repeat (simp only [h64, h64s, h81, ks_eq, ks_ss]; try dsimp only [kx_wp, kx_step, kx_lI, kx_lL, kx_lA, kx_gl, kx_pI, kx_pL, kx_pR, kx_pA, kx_pV, kx_s1, kx_s2, kx_sl, kx_pre, kx_c2, kx_pl, kx_cmp, kx_oF, kx_eqN, kx_nil, kx_c1, kx_ft, kx_aI, kx_aL, kx_aR, kx_ln, Nat.reduceAdd, Option.toList, List.cons_append, List.nil_append, cf10_13, cf10_6])
        repeat' apply And.intro
        all_goals try (first | with_reducible assumption | (with_reducible refine ck_nzI ?_; simp; done) | (with_reducible refine ck_nzL ?_; simp; done) | (with_reducible refine vp_in_nI ?_ ?_ <;> first | omega | decide) | (with_reducible refine Nat.le_of_ble_eq_true ?_; rfl) | omega | exact Or.inl trivial | exact Or.inr trivial | exact Or.inl rfl | exact Or.inr rfl)
        · intro zc17
          first | exact absurd rfl zc17 | exact absurd zc17 (by decide) | exact absurd (by decide) zc17 | (exfalso; first | exact absurd zc6 (by decide) | exact absurd ((nI_ltI (a := days) (b := 1) (by omega) (by omega)).mp zc11) (by omega) | exact absurd ((nI_ltI (a := 10) (b := days) (by omega) (by omega)).mp zc17) (by omega) | exact absurd zc40 (by decide) | exact absurd ((nI_ltI (a := wh + 1) (b := 0) (by omega) (by omega)).mp zc40) (by omega) | exact absurd ((nI_ltI (a := days) (b := wh + 1) (by omega) (by omega)).mp zc46) (by omega) | exact absurd ((nI_ltI (a := days) (b := 0) (by omega) (by omega)).mp zc46) (by omega) | exact zc73 rfl | exact absurd zc73 (by decide) | exact absurd ((nI_eq (a := wh + 1) (b := 0) (by omega) (by omega)).mp (Decidable.not_not.mp zc73)) (by omega) | exact zc30 hmn1 | exact absurd zc30 (by rw [hmn1]; decide) | exact absurd zc35 (by rw [hmn1]; decide) | exact absurd zc30 (by rw [hmn1]; decide) | exact zc35 (by rw [hmn1]; rfl) | exact absurd (by rw [hmn1]; rfl) zc35) | (exfalso; simp_all; done)
        · intro zc17
          with_reducible first | have ze17 := Int32.not_lt.mp zc17 | have ze17 := zc17
          refine hB bX10_plan_20 _ _ _ _ _ _ _ kX10_plan_20 ?_
          dsimp only [bX10_plan_20, kx_wp, kx_step, kx_lI, kx_lL, kx_lA, kx_gl, kx_pI, kx_pL, kx_pR, kx_pA, kx_pV, kx_s1, kx_s2, kx_sl, kx_pre, kx_c2, kx_pl, kx_cmp, kx_oF, kx_eqN, kx_nil, kx_c1, kx_ft, kx_aI, kx_aL, kx_aR, kx_ln, Nat.reduceAdd, Option.toList, List.cons_append, List.nil_append, cf10_13, cf10_6]
          repeat (simp only [h64, h64s, h81, ks_eq, ks_ss]; try dsimp only [kx_wp, kx_step, kx_lI, kx_lL, kx_lA, kx_gl, kx_pI, kx_pL, kx_pR, kx_pA, kx_pV, kx_s1, kx_s2, kx_sl, kx_pre, kx_c2, kx_pl, kx_cmp, kx_oF, kx_eqN, kx_nil, kx_c1, kx_ft, kx_aI, kx_aL, kx_aR, kx_ln, Nat.reduceAdd, Option.toList, List.cons_append, List.nil_append, cf10_13, cf10_6])
          repeat' apply And.intro
          all_goals try (first | with_reducible assumption | (with_reducible refine ck_nzI ?_; simp; done) | (with_reducible refine ck_nzL ?_; simp; done) | (with_reducible refine vp_in_nI ?_ ?_ <;> first | omega | decide) | (with_reducible refine Nat.le_of_ble_eq_true ?_; rfl) | omega | exact Or.inl trivial | exact Or.inr trivial | exact Or.inl rfl | exact Or.inr rfl)
          refine hC.2.1 95 _ _ _ _ _ _ _ _ _ _ _ _ _ _ _ _ _ lX10_95 (ct_X10_need l G (b := 1) (by decide)) rfl rfl (Nat.le_of_ble_eq_true rfl) (by first | decide | omega) (by decide) (by omega) (by omega) dX10_plan_25 ?_
          refine hB bX10_plan_28 _ _ _ _ _ _ _ kX10_plan_28 ?_
          dsimp only [bX10_plan_28, kx_wp, kx_step, kx_lI, kx_lL, kx_lA, kx_gl, kx_pI, kx_pL, kx_pR, kx_pA, kx_pV, kx_s1, kx_s2, kx_sl, kx_pre, kx_c2, kx_pl, kx_cmp, kx_oF, kx_eqN, kx_nil, kx_c1, kx_ft, kx_aI, kx_aL, kx_aR, kx_ln, Nat.reduceAdd, Option.toList, List.cons_append, List.nil_append, cf10_13, cf10_6]
          repeat (simp only [h64, h64s, h81, ks_eq, ks_ss]; try dsimp only [kx_wp, kx_step, kx_lI, kx_lL, kx_lA, kx_gl, kx_pI, kx_pL, kx_pR, kx_pA, kx_pV, kx_s1, kx_s2, kx_sl, kx_pre, kx_c2, kx_pl, kx_cmp, kx_oF, kx_eqN, kx_nil, kx_c1, kx_ft, kx_aI, kx_aL, kx_aR, kx_ln, Nat.reduceAdd, Option.toList, List.cons_append, List.nil_append, cf10_13, cf10_6])
          repeat' apply And.intro
          all_goals try (first | with_reducible assumption | (with_reducible refine ck_nzI ?_; simp; done) | (with_reducible refine ck_nzL ?_; simp; done) | (with_reducible refine vp_in_nI ?_ ?_ <;> first | omega | decide) | (with_reducible refine Nat.le_of_ble_eq_true ?_; rfl) | omega | exact Or.inl trivial | exact Or.inr trivial | exact Or.inl rfl | exact Or.inr rfl)
          · intro zc30
            have ze30 := zc30
            refine hB bX10_plan_38 _ _ _ _ _ _ _ kX10_plan_38 ?_
            dsimp only [bX10_plan_38, kx_wp, kx_step, kx_lI, kx_lL, kx_lA, kx_gl, kx_pI, kx_pL, kx_pR, kx_pA, kx_pV, kx_s1, kx_s2, kx_sl, kx_pre, kx_c2, kx_pl, kx_cmp, kx_oF, kx_eqN, kx_nil, kx_c1, kx_ft, kx_aI, kx_aL, kx_aR, kx_ln, Nat.reduceAdd, Option.toList, List.cons_append, List.nil_append, cf10_13, cf10_6]
            repeat (simp only [h64, h64s, h81, ks_eq, ks_ss]; try dsimp only [kx_wp, kx_step, kx_lI, kx_lL, kx_lA, kx_gl, kx_pI, kx_pL, kx_pR, kx_pA, kx_pV, kx_s1, kx_s2, kx_sl, kx_pre, kx_c2, kx_pl, kx_cmp, kx_oF, kx_eqN, kx_nil, kx_c1, kx_ft, kx_aI, kx_aL, kx_aR, kx_ln, Nat.reduceAdd, Option.toList, List.cons_append, List.nil_append, cf10_13, cf10_6])
            repeat' apply And.intro
            all_goals try (first | with_reducible assumption | (with_reducible refine ck_nzI ?_; simp; done) | (with_reducible refine ck_nzL ?_; simp; done) | (with_reducible refine vp_in_nI ?_ ?_ <;> first | omega | decide) | (with_reducible refine Nat.le_of_ble_eq_true ?_; rfl) | omega | exact Or.inl trivial | exact Or.inr trivial | exact Or.inl rfl | exact Or.inr rfl)
            · intro zc40
              first | exact absurd rfl zc40 | exact absurd zc40 (by decide) | exact absurd (by decide) zc40 | (exfalso; first | exact absurd zc6 (by decide) | exact absurd ((nI_ltI (a := days) (b := 1) (by omega) (by omega)).mp zc11) (by omega) | exact absurd ((nI_ltI (a := 10) (b := days) (by omega) (by omega)).mp zc17) (by omega) | exact absurd zc40 (by decide) | exact absurd ((nI_ltI (a := wh + 1) (b := 0) (by omega) (by omega)).mp zc40) (by omega) | exact absurd ((nI_ltI (a := days) (b := wh + 1) (by omega) (by omega)).mp zc46) (by omega) | exact absurd ((nI_ltI (a := days) (b := 0) (by omega) (by omega)).mp zc46) (by omega) | exact zc73 rfl | exact absurd zc73 (by decide) | exact absurd ((nI_eq (a := wh + 1) (b := 0) (by omega) (by omega)).mp (Decidable.not_not.mp zc73)) (by omega) | exact zc30 hmn1 | exact absurd zc30 (by rw [hmn1]; decide) | exact absurd zc35 (by rw [hmn1]; decide) | exact absurd zc30 (by rw [hmn1]; decide) | exact zc35 (by rw [hmn1]; rfl) | exact absurd (by rw [hmn1]; rfl) zc35) | (exfalso; simp_all; done)
            · intro zc40
              with_reducible first | have ze40 := Int32.not_lt.mp zc40 | have ze40 := zc40
              refine hB bX10_plan_43 _ _ _ _ _ _ _ kX10_plan_43 ?_
              dsimp only [bX10_plan_43, kx_wp, kx_step, kx_lI, kx_lL, kx_lA, kx_gl, kx_pI, kx_pL, kx_pR, kx_pA, kx_pV, kx_s1, kx_s2, kx_sl, kx_pre, kx_c2, kx_pl, kx_cmp, kx_oF, kx_eqN, kx_nil, kx_c1, kx_ft, kx_aI, kx_aL, kx_aR, kx_ln, Nat.reduceAdd, Option.toList, List.cons_append, List.nil_append, cf10_13, cf10_6]
              repeat (simp only [h64, h64s, h81, ks_eq, ks_ss]; try dsimp only [kx_wp, kx_step, kx_lI, kx_lL, kx_lA, kx_gl, kx_pI, kx_pL, kx_pR, kx_pA, kx_pV, kx_s1, kx_s2, kx_sl, kx_pre, kx_c2, kx_pl, kx_cmp, kx_oF, kx_eqN, kx_nil, kx_c1, kx_ft, kx_aI, kx_aL, kx_aR, kx_ln, Nat.reduceAdd, Option.toList, List.cons_append, List.nil_append, cf10_13, cf10_6])
              repeat' apply And.intro
              all_goals try (first | with_reducible assumption | (with_reducible refine ck_nzI ?_; simp; done) | (with_reducible refine ck_nzL ?_; simp; done) | (with_reducible refine vp_in_nI ?_ ?_ <;> first | omega | decide) | (with_reducible refine Nat.le_of_ble_eq_true ?_; rfl) | omega | exact Or.inl trivial | exact Or.inr trivial | exact Or.inl rfl | exact Or.inr rfl)
              · intro zc46
                first | exact absurd rfl zc46 | exact absurd zc46 (by decide) | exact absurd (by decide) zc46 | (exfalso; first | exact absurd zc6 (by decide) | exact absurd ((nI_ltI (a := days) (b := 1) (by omega) (by omega)).mp zc11) (by omega) | exact absurd ((nI_ltI (a := 10) (b := days) (by omega) (by omega)).mp zc17) (by omega) | exact absurd zc40 (by decide) | exact absurd ((nI_ltI (a := wh + 1) (b := 0) (by omega) (by omega)).mp zc40) (by omega) | exact absurd ((nI_ltI (a := days) (b := wh + 1) (by omega) (by omega)).mp zc46) (by omega) | exact absurd ((nI_ltI (a := days) (b := 0) (by omega) (by omega)).mp zc46) (by omega) | exact zc73 rfl | exact absurd zc73 (by decide) | exact absurd ((nI_eq (a := wh + 1) (b := 0) (by omega) (by omega)).mp (Decidable.not_not.mp zc73)) (by omega) | exact zc30 hmn1 | exact absurd zc30 (by rw [hmn1]; decide) | exact absurd zc35 (by rw [hmn1]; decide) | exact absurd zc30 (by rw [hmn1]; decide) | exact zc35 (by rw [hmn1]; rfl) | exact absurd (by rw [hmn1]; rfl) zc35) | (exfalso; simp_all; done)
              · intro zc46
                with_reducible first | have ze46 := Int32.not_lt.mp zc46 | have ze46 := zc46
                refine hB bX10_plan_49 _ _ _ _ _ _ _ kX10_plan_49 ?_
                dsimp only [bX10_plan_49, kx_wp, kx_step, kx_lI, kx_lL, kx_lA, kx_gl, kx_pI, kx_pL, kx_pR, kx_pA, kx_pV, kx_s1, kx_s2, kx_sl, kx_pre, kx_c2, kx_pl, kx_cmp, kx_oF, kx_eqN, kx_nil, kx_c1, kx_ft, kx_aI, kx_aL, kx_aR, kx_ln, Nat.reduceAdd, Option.toList, List.cons_append, List.nil_append, cf10_13, cf10_6]
                repeat (simp only [h64, h64s, h81, ks_eq, ks_ss]; try dsimp only [kx_wp, kx_step, kx_lI, kx_lL, kx_lA, kx_gl, kx_pI, kx_pL, kx_pR, kx_pA, kx_pV, kx_s1, kx_s2, kx_sl, kx_pre, kx_c2, kx_pl, kx_cmp, kx_oF, kx_eqN, kx_nil, kx_c1, kx_ft, kx_aI, kx_aL, kx_aR, kx_ln, Nat.reduceAdd, Option.toList, List.cons_append, List.nil_append, cf10_13, cf10_6])
                repeat' apply And.intro
                all_goals try (first | with_reducible assumption | (with_reducible refine ck_nzI ?_; simp; done) | (with_reducible refine ck_nzL ?_; simp; done) | (with_reducible refine vp_in_nI ?_ ?_ <;> first | omega | decide) | (with_reducible refine Nat.le_of_ble_eq_true ?_; rfl) | omega | exact Or.inl trivial | exact Or.inr trivial | exact Or.inl rfl | exact Or.inr rfl)
                refine hC.2.1 95 _ _ _ _ _ _ _ _ _ _ _ _ _ _ _ _ _ lX10_95 (ct_X10_need l G (b := 1) (by decide)) rfl rfl (Nat.le_of_ble_eq_true rfl) (by first | decide | omega) (by decide) (by omega) (by omega) dX10_plan_54 ?_
                refine hB bX10_plan_57 _ _ _ _ _ _ _ kX10_plan_57 ?_
                dsimp only [bX10_plan_57, kx_wp, kx_step, kx_lI, kx_lL, kx_lA, kx_gl, kx_pI, kx_pL, kx_pR, kx_pA, kx_pV, kx_s1, kx_s2, kx_sl, kx_pre, kx_c2, kx_pl, kx_cmp, kx_oF, kx_eqN, kx_nil, kx_c1, kx_ft, kx_aI, kx_aL, kx_aR, kx_ln, Nat.reduceAdd, Option.toList, List.cons_append, List.nil_append, cf10_13, cf10_6]
                repeat (simp only [h64, h64s, h81, ks_eq, ks_ss]; try dsimp only [kx_wp, kx_step, kx_lI, kx_lL, kx_lA, kx_gl, kx_pI, kx_pL, kx_pR, kx_pA, kx_pV, kx_s1, kx_s2, kx_sl, kx_pre, kx_c2, kx_pl, kx_cmp, kx_oF, kx_eqN, kx_nil, kx_c1, kx_ft, kx_aI, kx_aL, kx_aR, kx_ln, Nat.reduceAdd, Option.toList, List.cons_append, List.nil_append, cf10_13, cf10_6])
                repeat' apply And.intro
                all_goals try (first | with_reducible assumption | (with_reducible refine ck_nzI ?_; simp; done) | (with_reducible refine ck_nzL ?_; simp; done) | (with_reducible refine vp_in_nI ?_ ?_ <;> first | omega | decide) | (with_reducible refine Nat.le_of_ble_eq_true ?_; rfl) | omega | exact Or.inl trivial | exact Or.inr trivial | exact Or.inl rfl | exact Or.inr rfl)
                refine hC.1 281 _ _ _ _ _ _ _ 4 _ _ _ _ _ _ _ _ _ _ _ _ lX10_281 (hb9) ⟨by decide, rfl⟩ (h81) rfl rfl (Nat.le_of_ble_eq_true rfl) (by first | decide | omega) (by decide) (by omega) (by omega) dX10_plan_68 ?_
                exact h71
          · intro zc30
            first | exact absurd rfl zc30 | exact absurd zc30 (by decide) | exact absurd (by decide) zc30 | (exfalso; first | exact absurd zc6 (by decide) | exact absurd ((nI_ltI (a := days) (b := 1) (by omega) (by omega)).mp zc11) (by omega) | exact absurd ((nI_ltI (a := 10) (b := days) (by omega) (by omega)).mp zc17) (by omega) | exact absurd zc40 (by decide) | exact absurd ((nI_ltI (a := wh + 1) (b := 0) (by omega) (by omega)).mp zc40) (by omega) | exact absurd ((nI_ltI (a := days) (b := wh + 1) (by omega) (by omega)).mp zc46) (by omega) | exact absurd ((nI_ltI (a := days) (b := 0) (by omega) (by omega)).mp zc46) (by omega) | exact zc73 rfl | exact absurd zc73 (by decide) | exact absurd ((nI_eq (a := wh + 1) (b := 0) (by omega) (by omega)).mp (Decidable.not_not.mp zc73)) (by omega) | exact zc30 hmn1 | exact absurd zc30 (by rw [hmn1]; decide) | exact absurd zc35 (by rw [hmn1]; decide) | exact absurd zc30 (by rw [hmn1]; decide) | exact zc35 (by rw [hmn1]; rfl) | exact absurd (by rw [hmn1]; rfl) zc35) | (exfalso; simp_all; done)
  · refine hB bX10_plan_0 _ _ _ _ _ _ _ kX10_plan_0 ?_
    dsimp only [bX10_plan_0, kx_wp, kx_step, kx_lI, kx_lL, kx_lA, kx_gl, kx_pI, kx_pL, kx_pR, kx_pA, kx_pV, kx_s1, kx_s2, kx_sl, kx_pre, kx_c2, kx_pl, kx_cmp, kx_oF, kx_eqN, kx_nil, kx_c1, kx_ft, kx_aI, kx_aL, kx_aR, kx_ln, Nat.reduceAdd, Option.toList, List.cons_append, List.nil_append, cf10_13, cf10_6]
    repeat (simp only [h64, h64s, h81, ks_eq, ks_ss]; try dsimp only [kx_wp, kx_step, kx_lI, kx_lL, kx_lA, kx_gl, kx_pI, kx_pL, kx_pR, kx_pA, kx_pV, kx_s1, kx_s2, kx_sl, kx_pre, kx_c2, kx_pl, kx_cmp, kx_oF, kx_eqN, kx_nil, kx_c1, kx_ft, kx_aI, kx_aL, kx_aR, kx_ln, Nat.reduceAdd, Option.toList, List.cons_append, List.nil_append, cf10_13, cf10_6])
    repeat' apply And.intro
    all_goals try (first | with_reducible assumption | (with_reducible refine ck_nzI ?_; simp; done) | (with_reducible refine ck_nzL ?_; simp; done) | (with_reducible refine vp_in_nI ?_ ?_ <;> first | omega | decide) | (with_reducible refine Nat.le_of_ble_eq_true ?_; rfl) | omega | exact Or.inl trivial | exact Or.inr trivial | exact Or.inl rfl | exact Or.inr rfl)
    refine hC.1 261 _ _ _ _ _ _ _ 10 _ _ _ _ _ _ _ _ _ _ _ _ lX10_261 (ct_X10_areClocks l G h64) ⟨by decide, rfl⟩ (h64) rfl rfl (Nat.le_of_ble_eq_true rfl) (by first | decide | omega) (by decide) (by omega) (by omega) dX10_plan_3 ?_
    rw [hac]
    refine hB bX10_plan_6 _ _ _ _ _ _ _ kX10_plan_6 ?_
    dsimp only [bX10_plan_6, kx_wp, kx_step, kx_lI, kx_lL, kx_lA, kx_gl, kx_pI, kx_pL, kx_pR, kx_pA, kx_pV, kx_s1, kx_s2, kx_sl, kx_pre, kx_c2, kx_pl, kx_cmp, kx_oF, kx_eqN, kx_nil, kx_c1, kx_ft, kx_aI, kx_aL, kx_aR, kx_ln, Nat.reduceAdd, Option.toList, List.cons_append, List.nil_append, cf10_13, cf10_6]
    repeat (simp only [h64, h64s, h81, ks_eq, ks_ss]; try dsimp only [kx_wp, kx_step, kx_lI, kx_lL, kx_lA, kx_gl, kx_pI, kx_pL, kx_pR, kx_pA, kx_pV, kx_s1, kx_s2, kx_sl, kx_pre, kx_c2, kx_pl, kx_cmp, kx_oF, kx_eqN, kx_nil, kx_c1, kx_ft, kx_aI, kx_aL, kx_aR, kx_ln, Nat.reduceAdd, Option.toList, List.cons_append, List.nil_append, cf10_13, cf10_6])
    repeat' apply And.intro
    all_goals try (first | with_reducible assumption | (with_reducible refine ck_nzI ?_; simp; done) | (with_reducible refine ck_nzL ?_; simp; done) | (with_reducible refine vp_in_nI ?_ ?_ <;> first | omega | decide) | (with_reducible refine Nat.le_of_ble_eq_true ?_; rfl) | omega | exact Or.inl trivial | exact Or.inr trivial | exact Or.inl rfl | exact Or.inr rfl)
    · intro zc6
      first | exact absurd rfl zc6 | exact absurd zc6 (by decide) | exact absurd (by decide) zc6 | (exfalso; first | exact absurd zc6 (by decide) | exact absurd ((nI_ltI (a := days) (b := 1) (by omega) (by omega)).mp zc11) (by omega) | exact absurd ((nI_ltI (a := 10) (b := days) (by omega) (by omega)).mp zc17) (by omega) | exact absurd zc40 (by decide) | exact absurd ((nI_ltI (a := wh + 1) (b := 0) (by omega) (by omega)).mp zc40) (by omega) | exact absurd ((nI_ltI (a := days) (b := wh + 1) (by omega) (by omega)).mp zc46) (by omega) | exact absurd ((nI_ltI (a := days) (b := 0) (by omega) (by omega)).mp zc46) (by omega) | exact zc73 rfl | exact absurd zc73 (by decide) | exact absurd ((nI_eq (a := wh + 1) (b := 0) (by omega) (by omega)).mp (Decidable.not_not.mp zc73)) (by omega) | exact zc30 hmn1 | exact absurd zc30 (by rw [hmn1]; decide) | exact absurd zc35 (by rw [hmn1]; decide) | exact absurd zc30 (by rw [hmn1]; decide) | exact zc35 (by rw [hmn1]; rfl) | exact absurd (by rw [hmn1]; rfl) zc35) | (exfalso; simp_all; done)
    · intro zc6
      have ze6 := zc6
      refine hB bX10_plan_9 _ _ _ _ _ _ _ kX10_plan_9 ?_
      dsimp only [bX10_plan_9, kx_wp, kx_step, kx_lI, kx_lL, kx_lA, kx_gl, kx_pI, kx_pL, kx_pR, kx_pA, kx_pV, kx_s1, kx_s2, kx_sl, kx_pre, kx_c2, kx_pl, kx_cmp, kx_oF, kx_eqN, kx_nil, kx_c1, kx_ft, kx_aI, kx_aL, kx_aR, kx_ln, Nat.reduceAdd, Option.toList, List.cons_append, List.nil_append, cf10_13, cf10_6]
      repeat (simp only [h64, h64s, h81, ks_eq, ks_ss]; try dsimp only [kx_wp, kx_step, kx_lI, kx_lL, kx_lA, kx_gl, kx_pI, kx_pL, kx_pR, kx_pA, kx_pV, kx_s1, kx_s2, kx_sl, kx_pre, kx_c2, kx_pl, kx_cmp, kx_oF, kx_eqN, kx_nil, kx_c1, kx_ft, kx_aI, kx_aL, kx_aR, kx_ln, Nat.reduceAdd, Option.toList, List.cons_append, List.nil_append, cf10_13, cf10_6])
      repeat' apply And.intro
      all_goals try (first | with_reducible assumption | (with_reducible refine ck_nzI ?_; simp; done) | (with_reducible refine ck_nzL ?_; simp; done) | (with_reducible refine vp_in_nI ?_ ?_ <;> first | omega | decide) | (with_reducible refine Nat.le_of_ble_eq_true ?_; rfl) | omega | exact Or.inl trivial | exact Or.inr trivial | exact Or.inl rfl | exact Or.inr rfl)
      · intro zc11
        first | exact absurd rfl zc11 | exact absurd zc11 (by decide) | exact absurd (by decide) zc11 | (exfalso; first | exact absurd zc6 (by decide) | exact absurd ((nI_ltI (a := days) (b := 1) (by omega) (by omega)).mp zc11) (by omega) | exact absurd ((nI_ltI (a := 10) (b := days) (by omega) (by omega)).mp zc17) (by omega) | exact absurd zc40 (by decide) | exact absurd ((nI_ltI (a := wh + 1) (b := 0) (by omega) (by omega)).mp zc40) (by omega) | exact absurd ((nI_ltI (a := days) (b := wh + 1) (by omega) (by omega)).mp zc46) (by omega) | exact absurd ((nI_ltI (a := days) (b := 0) (by omega) (by omega)).mp zc46) (by omega) | exact zc73 rfl | exact absurd zc73 (by decide) | exact absurd ((nI_eq (a := wh + 1) (b := 0) (by omega) (by omega)).mp (Decidable.not_not.mp zc73)) (by omega) | exact zc30 hmn1 | exact absurd zc30 (by rw [hmn1]; decide) | exact absurd zc35 (by rw [hmn1]; decide) | exact absurd zc30 (by rw [hmn1]; decide) | exact zc35 (by rw [hmn1]; rfl) | exact absurd (by rw [hmn1]; rfl) zc35) | (exfalso; simp_all; done)
      · intro zc11
        with_reducible first | have ze11 := Int32.not_lt.mp zc11 | have ze11 := zc11
        refine hB bX10_plan_14 _ _ _ _ _ _ _ kX10_plan_14 ?_
        dsimp only [bX10_plan_14, kx_wp, kx_step, kx_lI, kx_lL, kx_lA, kx_gl, kx_pI, kx_pL, kx_pR, kx_pA, kx_pV, kx_s1, kx_s2, kx_sl, kx_pre, kx_c2, kx_pl, kx_cmp, kx_oF, kx_eqN, kx_nil, kx_c1, kx_ft, kx_aI, kx_aL, kx_aR, kx_ln, Nat.reduceAdd, Option.toList, List.cons_append, List.nil_append, cf10_13, cf10_6]
        repeat (simp only [h64, h64s, h81, ks_eq, ks_ss]; try dsimp only [kx_wp, kx_step, kx_lI, kx_lL, kx_lA, kx_gl, kx_pI, kx_pL, kx_pR, kx_pA, kx_pV, kx_s1, kx_s2, kx_sl, kx_pre, kx_c2, kx_pl, kx_cmp, kx_oF, kx_eqN, kx_nil, kx_c1, kx_ft, kx_aI, kx_aL, kx_aR, kx_ln, Nat.reduceAdd, Option.toList, List.cons_append, List.nil_append, cf10_13, cf10_6])
        repeat' apply And.intro
        all_goals try (first | with_reducible assumption | (with_reducible refine ck_nzI ?_; simp; done) | (with_reducible refine ck_nzL ?_; simp; done) | (with_reducible refine vp_in_nI ?_ ?_ <;> first | omega | decide) | (with_reducible refine Nat.le_of_ble_eq_true ?_; rfl) | omega | exact Or.inl trivial | exact Or.inr trivial | exact Or.inl rfl | exact Or.inr rfl)
        · intro zc17
          first | exact absurd rfl zc17 | exact absurd zc17 (by decide) | exact absurd (by decide) zc17 | (exfalso; first | exact absurd zc6 (by decide) | exact absurd ((nI_ltI (a := days) (b := 1) (by omega) (by omega)).mp zc11) (by omega) | exact absurd ((nI_ltI (a := 10) (b := days) (by omega) (by omega)).mp zc17) (by omega) | exact absurd zc40 (by decide) | exact absurd ((nI_ltI (a := wh + 1) (b := 0) (by omega) (by omega)).mp zc40) (by omega) | exact absurd ((nI_ltI (a := days) (b := wh + 1) (by omega) (by omega)).mp zc46) (by omega) | exact absurd ((nI_ltI (a := days) (b := 0) (by omega) (by omega)).mp zc46) (by omega) | exact zc73 rfl | exact absurd zc73 (by decide) | exact absurd ((nI_eq (a := wh + 1) (b := 0) (by omega) (by omega)).mp (Decidable.not_not.mp zc73)) (by omega) | exact zc30 hmn1 | exact absurd zc30 (by rw [hmn1]; decide) | exact absurd zc35 (by rw [hmn1]; decide) | exact absurd zc30 (by rw [hmn1]; decide) | exact zc35 (by rw [hmn1]; rfl) | exact absurd (by rw [hmn1]; rfl) zc35) | (exfalso; simp_all; done)
        · intro zc17
          with_reducible first | have ze17 := Int32.not_lt.mp zc17 | have ze17 := zc17
          refine hB bX10_plan_20 _ _ _ _ _ _ _ kX10_plan_20 ?_
          dsimp only [bX10_plan_20, kx_wp, kx_step, kx_lI, kx_lL, kx_lA, kx_gl, kx_pI, kx_pL, kx_pR, kx_pA, kx_pV, kx_s1, kx_s2, kx_sl, kx_pre, kx_c2, kx_pl, kx_cmp, kx_oF, kx_eqN, kx_nil, kx_c1, kx_ft, kx_aI, kx_aL, kx_aR, kx_ln, Nat.reduceAdd, Option.toList, List.cons_append, List.nil_append, cf10_13, cf10_6]
          repeat (simp only [h64, h64s, h81, ks_eq, ks_ss]; try dsimp only [kx_wp, kx_step, kx_lI, kx_lL, kx_lA, kx_gl, kx_pI, kx_pL, kx_pR, kx_pA, kx_pV, kx_s1, kx_s2, kx_sl, kx_pre, kx_c2, kx_pl, kx_cmp, kx_oF, kx_eqN, kx_nil, kx_c1, kx_ft, kx_aI, kx_aL, kx_aR, kx_ln, Nat.reduceAdd, Option.toList, List.cons_append, List.nil_append, cf10_13, cf10_6])
          repeat' apply And.intro
          all_goals try (first | with_reducible assumption | (with_reducible refine ck_nzI ?_; simp; done) | (with_reducible refine ck_nzL ?_; simp; done) | (with_reducible refine vp_in_nI ?_ ?_ <;> first | omega | decide) | (with_reducible refine Nat.le_of_ble_eq_true ?_; rfl) | omega | exact Or.inl trivial | exact Or.inr trivial | exact Or.inl rfl | exact Or.inr rfl)
          refine hC.2.1 95 _ _ _ _ _ _ _ _ _ _ _ _ _ _ _ _ _ lX10_95 (ct_X10_need l G (b := 1) (by decide)) rfl rfl (Nat.le_of_ble_eq_true rfl) (by first | decide | omega) (by decide) (by omega) (by omega) dX10_plan_25 ?_
          refine hB bX10_plan_28 _ _ _ _ _ _ _ kX10_plan_28 ?_
          dsimp only [bX10_plan_28, kx_wp, kx_step, kx_lI, kx_lL, kx_lA, kx_gl, kx_pI, kx_pL, kx_pR, kx_pA, kx_pV, kx_s1, kx_s2, kx_sl, kx_pre, kx_c2, kx_pl, kx_cmp, kx_oF, kx_eqN, kx_nil, kx_c1, kx_ft, kx_aI, kx_aL, kx_aR, kx_ln, Nat.reduceAdd, Option.toList, List.cons_append, List.nil_append, cf10_13, cf10_6]
          repeat (simp only [h64, h64s, h81, ks_eq, ks_ss]; try dsimp only [kx_wp, kx_step, kx_lI, kx_lL, kx_lA, kx_gl, kx_pI, kx_pL, kx_pR, kx_pA, kx_pV, kx_s1, kx_s2, kx_sl, kx_pre, kx_c2, kx_pl, kx_cmp, kx_oF, kx_eqN, kx_nil, kx_c1, kx_ft, kx_aI, kx_aL, kx_aR, kx_ln, Nat.reduceAdd, Option.toList, List.cons_append, List.nil_append, cf10_13, cf10_6])
          repeat' apply And.intro
          all_goals try (first | with_reducible assumption | (with_reducible refine ck_nzI ?_; simp; done) | (with_reducible refine ck_nzL ?_; simp; done) | (with_reducible refine vp_in_nI ?_ ?_ <;> first | omega | decide) | (with_reducible refine Nat.le_of_ble_eq_true ?_; rfl) | omega | exact Or.inl trivial | exact Or.inr trivial | exact Or.inl rfl | exact Or.inr rfl)
          · intro zc30
            first | exact absurd rfl zc30 | exact absurd zc30 (by decide) | exact absurd (by decide) zc30 | (exfalso; first | exact absurd zc6 (by decide) | exact absurd ((nI_ltI (a := days) (b := 1) (by omega) (by omega)).mp zc11) (by omega) | exact absurd ((nI_ltI (a := 10) (b := days) (by omega) (by omega)).mp zc17) (by omega) | exact absurd zc40 (by decide) | exact absurd ((nI_ltI (a := wh + 1) (b := 0) (by omega) (by omega)).mp zc40) (by omega) | exact absurd ((nI_ltI (a := days) (b := wh + 1) (by omega) (by omega)).mp zc46) (by omega) | exact absurd ((nI_ltI (a := days) (b := 0) (by omega) (by omega)).mp zc46) (by omega) | exact zc73 rfl | exact absurd zc73 (by decide) | exact absurd ((nI_eq (a := wh + 1) (b := 0) (by omega) (by omega)).mp (Decidable.not_not.mp zc73)) (by omega) | exact zc30 hmn1 | exact absurd zc30 (by rw [hmn1]; decide) | exact absurd zc35 (by rw [hmn1]; decide) | exact absurd zc30 (by rw [hmn1]; decide) | exact zc35 (by rw [hmn1]; rfl) | exact absurd (by rw [hmn1]; rfl) zc35) | (exfalso; simp_all; done)
          · intro zc30
            have ze30 := zc30
            refine hB bX10_plan_33 _ _ _ _ _ _ _ kX10_plan_33 ?_
            dsimp only [bX10_plan_33, kx_wp, kx_step, kx_lI, kx_lL, kx_lA, kx_gl, kx_pI, kx_pL, kx_pR, kx_pA, kx_pV, kx_s1, kx_s2, kx_sl, kx_pre, kx_c2, kx_pl, kx_cmp, kx_oF, kx_eqN, kx_nil, kx_c1, kx_ft, kx_aI, kx_aL, kx_aR, kx_ln, Nat.reduceAdd, Option.toList, List.cons_append, List.nil_append, cf10_13, cf10_6]
            repeat (simp only [h64, h64s, h81, ks_eq, ks_ss]; try dsimp only [kx_wp, kx_step, kx_lI, kx_lL, kx_lA, kx_gl, kx_pI, kx_pL, kx_pR, kx_pA, kx_pV, kx_s1, kx_s2, kx_sl, kx_pre, kx_c2, kx_pl, kx_cmp, kx_oF, kx_eqN, kx_nil, kx_c1, kx_ft, kx_aI, kx_aL, kx_aR, kx_ln, Nat.reduceAdd, Option.toList, List.cons_append, List.nil_append, cf10_13, cf10_6])
            repeat' apply And.intro
            all_goals try (first | with_reducible assumption | (with_reducible refine ck_nzI ?_; simp; done) | (with_reducible refine ck_nzL ?_; simp; done) | (with_reducible refine vp_in_nI ?_ ?_ <;> first | omega | decide) | (with_reducible refine Nat.le_of_ble_eq_true ?_; rfl) | omega | exact Or.inl trivial | exact Or.inr trivial | exact Or.inl rfl | exact Or.inr rfl)
            · intro zc35
              first | exact absurd rfl zc35 | exact absurd zc35 (by decide) | exact absurd (by decide) zc35 | (exfalso; first | exact absurd zc6 (by decide) | exact absurd ((nI_ltI (a := days) (b := 1) (by omega) (by omega)).mp zc11) (by omega) | exact absurd ((nI_ltI (a := 10) (b := days) (by omega) (by omega)).mp zc17) (by omega) | exact absurd zc40 (by decide) | exact absurd ((nI_ltI (a := wh + 1) (b := 0) (by omega) (by omega)).mp zc40) (by omega) | exact absurd ((nI_ltI (a := days) (b := wh + 1) (by omega) (by omega)).mp zc46) (by omega) | exact absurd ((nI_ltI (a := days) (b := 0) (by omega) (by omega)).mp zc46) (by omega) | exact zc73 rfl | exact absurd zc73 (by decide) | exact absurd ((nI_eq (a := wh + 1) (b := 0) (by omega) (by omega)).mp (Decidable.not_not.mp zc73)) (by omega) | exact zc30 hmn1 | exact absurd zc30 (by rw [hmn1]; decide) | exact absurd zc35 (by rw [hmn1]; decide) | exact absurd zc30 (by rw [hmn1]; decide) | exact zc35 (by rw [hmn1]; rfl) | exact absurd (by rw [hmn1]; rfl) zc35) | (exfalso; simp_all; done)
            · intro zc35
              with_reducible first | have ze35 := Decidable.not_not.mp zc35 | have ze35 := zc35
              refine hB bX10_plan_38 _ _ _ _ _ _ _ kX10_plan_38 ?_
              dsimp only [bX10_plan_38, kx_wp, kx_step, kx_lI, kx_lL, kx_lA, kx_gl, kx_pI, kx_pL, kx_pR, kx_pA, kx_pV, kx_s1, kx_s2, kx_sl, kx_pre, kx_c2, kx_pl, kx_cmp, kx_oF, kx_eqN, kx_nil, kx_c1, kx_ft, kx_aI, kx_aL, kx_aR, kx_ln, Nat.reduceAdd, Option.toList, List.cons_append, List.nil_append, cf10_13, cf10_6]
              repeat (simp only [h64, h64s, h81, ks_eq, ks_ss]; try dsimp only [kx_wp, kx_step, kx_lI, kx_lL, kx_lA, kx_gl, kx_pI, kx_pL, kx_pR, kx_pA, kx_pV, kx_s1, kx_s2, kx_sl, kx_pre, kx_c2, kx_pl, kx_cmp, kx_oF, kx_eqN, kx_nil, kx_c1, kx_ft, kx_aI, kx_aL, kx_aR, kx_ln, Nat.reduceAdd, Option.toList, List.cons_append, List.nil_append, cf10_13, cf10_6])
              repeat' apply And.intro
              all_goals try (first | with_reducible assumption | (with_reducible refine ck_nzI ?_; simp; done) | (with_reducible refine ck_nzL ?_; simp; done) | (with_reducible refine vp_in_nI ?_ ?_ <;> first | omega | decide) | (with_reducible refine Nat.le_of_ble_eq_true ?_; rfl) | omega | exact Or.inl trivial | exact Or.inr trivial | exact Or.inl rfl | exact Or.inr rfl)
              · intro zc40
                first | exact absurd rfl zc40 | exact absurd zc40 (by decide) | exact absurd (by decide) zc40 | (exfalso; first | exact absurd zc6 (by decide) | exact absurd ((nI_ltI (a := days) (b := 1) (by omega) (by omega)).mp zc11) (by omega) | exact absurd ((nI_ltI (a := 10) (b := days) (by omega) (by omega)).mp zc17) (by omega) | exact absurd zc40 (by decide) | exact absurd ((nI_ltI (a := wh + 1) (b := 0) (by omega) (by omega)).mp zc40) (by omega) | exact absurd ((nI_ltI (a := days) (b := wh + 1) (by omega) (by omega)).mp zc46) (by omega) | exact absurd ((nI_ltI (a := days) (b := 0) (by omega) (by omega)).mp zc46) (by omega) | exact zc73 rfl | exact absurd zc73 (by decide) | exact absurd ((nI_eq (a := wh + 1) (b := 0) (by omega) (by omega)).mp (Decidable.not_not.mp zc73)) (by omega) | exact zc30 hmn1 | exact absurd zc30 (by rw [hmn1]; decide) | exact absurd zc35 (by rw [hmn1]; decide) | exact absurd zc30 (by rw [hmn1]; decide) | exact zc35 (by rw [hmn1]; rfl) | exact absurd (by rw [hmn1]; rfl) zc35) | (exfalso; simp_all; done)
              · intro zc40
                with_reducible first | have ze40 := Int32.not_lt.mp zc40 | have ze40 := zc40
                refine hB bX10_plan_43 _ _ _ _ _ _ _ kX10_plan_43 ?_
                dsimp only [bX10_plan_43, kx_wp, kx_step, kx_lI, kx_lL, kx_lA, kx_gl, kx_pI, kx_pL, kx_pR, kx_pA, kx_pV, kx_s1, kx_s2, kx_sl, kx_pre, kx_c2, kx_pl, kx_cmp, kx_oF, kx_eqN, kx_nil, kx_c1, kx_ft, kx_aI, kx_aL, kx_aR, kx_ln, Nat.reduceAdd, Option.toList, List.cons_append, List.nil_append, cf10_13, cf10_6]
                repeat (simp only [h64, h64s, h81, ks_eq, ks_ss]; try dsimp only [kx_wp, kx_step, kx_lI, kx_lL, kx_lA, kx_gl, kx_pI, kx_pL, kx_pR, kx_pA, kx_pV, kx_s1, kx_s2, kx_sl, kx_pre, kx_c2, kx_pl, kx_cmp, kx_oF, kx_eqN, kx_nil, kx_c1, kx_ft, kx_aI, kx_aL, kx_aR, kx_ln, Nat.reduceAdd, Option.toList, List.cons_append, List.nil_append, cf10_13, cf10_6])
                repeat' apply And.intro
                all_goals try (first | with_reducible assumption | (with_reducible refine ck_nzI ?_; simp; done) | (with_reducible refine ck_nzL ?_; simp; done) | (with_reducible refine vp_in_nI ?_ ?_ <;> first | omega | decide) | (with_reducible refine Nat.le_of_ble_eq_true ?_; rfl) | omega | exact Or.inl trivial | exact Or.inr trivial | exact Or.inl rfl | exact Or.inr rfl)
                · intro zc46
                  first | exact absurd rfl zc46 | exact absurd zc46 (by decide) | exact absurd (by decide) zc46 | (exfalso; first | exact absurd zc6 (by decide) | exact absurd ((nI_ltI (a := days) (b := 1) (by omega) (by omega)).mp zc11) (by omega) | exact absurd ((nI_ltI (a := 10) (b := days) (by omega) (by omega)).mp zc17) (by omega) | exact absurd zc40 (by decide) | exact absurd ((nI_ltI (a := wh + 1) (b := 0) (by omega) (by omega)).mp zc40) (by omega) | exact absurd ((nI_ltI (a := days) (b := wh + 1) (by omega) (by omega)).mp zc46) (by omega) | exact absurd ((nI_ltI (a := days) (b := 0) (by omega) (by omega)).mp zc46) (by omega) | exact zc73 rfl | exact absurd zc73 (by decide) | exact absurd ((nI_eq (a := wh + 1) (b := 0) (by omega) (by omega)).mp (Decidable.not_not.mp zc73)) (by omega) | exact zc30 hmn1 | exact absurd zc30 (by rw [hmn1]; decide) | exact absurd zc35 (by rw [hmn1]; decide) | exact absurd zc30 (by rw [hmn1]; decide) | exact zc35 (by rw [hmn1]; rfl) | exact absurd (by rw [hmn1]; rfl) zc35) | (exfalso; simp_all; done)
                · intro zc46
                  with_reducible first | have ze46 := Int32.not_lt.mp zc46 | have ze46 := zc46
                  refine hB bX10_plan_49 _ _ _ _ _ _ _ kX10_plan_49 ?_
                  dsimp only [bX10_plan_49, kx_wp, kx_step, kx_lI, kx_lL, kx_lA, kx_gl, kx_pI, kx_pL, kx_pR, kx_pA, kx_pV, kx_s1, kx_s2, kx_sl, kx_pre, kx_c2, kx_pl, kx_cmp, kx_oF, kx_eqN, kx_nil, kx_c1, kx_ft, kx_aI, kx_aL, kx_aR, kx_ln, Nat.reduceAdd, Option.toList, List.cons_append, List.nil_append, cf10_13, cf10_6]
                  repeat (simp only [h64, h64s, h81, ks_eq, ks_ss]; try dsimp only [kx_wp, kx_step, kx_lI, kx_lL, kx_lA, kx_gl, kx_pI, kx_pL, kx_pR, kx_pA, kx_pV, kx_s1, kx_s2, kx_sl, kx_pre, kx_c2, kx_pl, kx_cmp, kx_oF, kx_eqN, kx_nil, kx_c1, kx_ft, kx_aI, kx_aL, kx_aR, kx_ln, Nat.reduceAdd, Option.toList, List.cons_append, List.nil_append, cf10_13, cf10_6])
                  repeat' apply And.intro
                  all_goals try (first | with_reducible assumption | (with_reducible refine ck_nzI ?_; simp; done) | (with_reducible refine ck_nzL ?_; simp; done) | (with_reducible refine vp_in_nI ?_ ?_ <;> first | omega | decide) | (with_reducible refine Nat.le_of_ble_eq_true ?_; rfl) | omega | exact Or.inl trivial | exact Or.inr trivial | exact Or.inl rfl | exact Or.inr rfl)
                  refine hC.2.1 95 _ _ _ _ _ _ _ _ _ _ _ _ _ _ _ _ _ lX10_95 (ct_X10_need l G (b := 1) (by decide)) rfl rfl (Nat.le_of_ble_eq_true rfl) (by first | decide | omega) (by decide) (by omega) (by omega) dX10_plan_54 ?_
                  refine hB bX10_plan_57 _ _ _ _ _ _ _ kX10_plan_57 ?_
                  dsimp only [bX10_plan_57, kx_wp, kx_step, kx_lI, kx_lL, kx_lA, kx_gl, kx_pI, kx_pL, kx_pR, kx_pA, kx_pV, kx_s1, kx_s2, kx_sl, kx_pre, kx_c2, kx_pl, kx_cmp, kx_oF, kx_eqN, kx_nil, kx_c1, kx_ft, kx_aI, kx_aL, kx_aR, kx_ln, Nat.reduceAdd, Option.toList, List.cons_append, List.nil_append, cf10_13, cf10_6]
                  repeat (simp only [h64, h64s, h81, ks_eq, ks_ss]; try dsimp only [kx_wp, kx_step, kx_lI, kx_lL, kx_lA, kx_gl, kx_pI, kx_pL, kx_pR, kx_pA, kx_pV, kx_s1, kx_s2, kx_sl, kx_pre, kx_c2, kx_pl, kx_cmp, kx_oF, kx_eqN, kx_nil, kx_c1, kx_ft, kx_aI, kx_aL, kx_aR, kx_ln, Nat.reduceAdd, Option.toList, List.cons_append, List.nil_append, cf10_13, cf10_6])
                  repeat' apply And.intro
                  all_goals try (first | with_reducible assumption | (with_reducible refine ck_nzI ?_; simp; done) | (with_reducible refine ck_nzL ?_; simp; done) | (with_reducible refine vp_in_nI ?_ ?_ <;> first | omega | decide) | (with_reducible refine Nat.le_of_ble_eq_true ?_; rfl) | omega | exact Or.inl trivial | exact Or.inr trivial | exact Or.inl rfl | exact Or.inr rfl)
                  refine hC.1 281 _ _ _ _ _ _ _ 4 _ _ _ _ _ _ _ _ _ _ _ _ lX10_281 (hb9) ⟨by decide, rfl⟩ (h81) rfl rfl (Nat.le_of_ble_eq_true rfl) (by first | decide | omega) (by decide) (by omega) (by omega) dX10_plan_68 ?_
                  exact h71

set_option maxRecDepth 100000 in
set_option maxHeartbeats 4000000 in
theorem ct_X10_plan_rs (l : Launch) (G : kx_G) {P : kx_P} {sz : Nat} {sv : Value} {K : Nat → Int32} (h64 : P 64 = kO 10 (kf (cr10 sv) K)) {Fp NU WS : Nat → Int32} (h82 : P 82 = kI 0 4 NU) (h83 : P 83 = kI 0 4 WS) (hnf : P 2 = kI 5 11 cj_nf) {cl : Nat} (hcl : cl ≤ 8) {cn wn : Nat → Nat} {DD : Nat → Int64} {HH : Nat → Value} {CC VV : Nat → Nat → Int32} (hCS : cx_CS P cl cn wn DD HH CC VV) {lf run : Nat → Nat} (hlr : ∀ i, i < cl → CC i 6 = nI (lf i) ∧ lf i ≤ 44640 ∧ VV i 0 = nI (run i) ∧ 1 ≤ run i ∧ run i ≤ 31) {s days many se : Nat} (hs : s < 2 ^ cl) (hs4 : ck_pc s ≤ 4) (hd : 1 ≤ days ∧ days ≤ 10) (hmn : many = 1 ∨ many = 2) (h7 : Fp 7 = nI se) (hse : se ≤ 999) (hac : cx_ac (nI s) (K 7) 4 = 1) {nt : Nat} (h81 : P 81 = kO 4 (kf (cr4 (.ref nt)) Fp)) (hnt : 144 ≤ nt) {N : Nat → Int32} (hN : P nt = kI 0 39973 N) (hNe : ∀ i, i < 39973 → ∃ e : Nat, N i = nI e ∧ e < 64 * (se + 1)) {wh : Nat} (hwh : wh < days)  : kx_Mn l G sX10_plan 30 0 0 [.ref 64, .int (nI s), .int (nI days), .int (nI many), .int (nI (wh + 1))] P sz (fun r P2 s2 => r = some (.int (cx_plv NU WS run lf s days many (wh + 1))) ∧ (∃ N2, P2 = kx_set (jW P (.ref nt) (cp_Fc Fp days many se lf s 8) (ck_pcl NU s 8) (cp_wsl WS run s 8)) nt (kI 0 39973 N2) ∧ ∀ i, i < 39973 → ∃ e : Nat, N2 i = nI e ∧ e < 64 * (se + 2)) ∧ s2 = sz) := by
  have hJ : jW P (.ref nt) Fp NU WS = P := by unfold jW; rw [ks_id h82, ks_id h83, ks_id h81]
  have hb9 := ct_X4_begin_r l G (sz := sz) hcl hCS hlr (F := Fp) (NU := NU) (WS := WS) (many := many) hs hs4 hd h7 (by omega : se ≤ 1000) (nt := nt)
  rw [hJ] at hb9
  have h144 : 144 ≤ nt := hnt
  have s256 : s < 256 := Nat.lt_of_lt_of_le hs (Nat.le_trans (Nat.pow_le_pow_right (n := 2) (by decide) hcl) (by decide))
  have hct : ck_ct s 8 = ck_pc s := ck_ct_pc 8 (by omega) s s256
  have h64s : (jW P (.ref nt) (cp_Fc Fp days many se lf s 8) (ck_pcl NU s 8) (cp_wsl WS run s 8)) 64 = kO 10 (kf (cr10 sv) K) := (jW_o (by decide) (by decide) (by decide)).trans (h64)
  have hp9 : cp_H (jW P (.ref nt) (cp_Fc Fp days many se lf s 8) (ck_pcl NU s 8) (cp_wsl WS run s 8)) nt (cp_Fc Fp days many se lf s 8) (cp_wsl WS run s 8) N (cx_ws WS run s) (ck_ct s 8) days many := by
    refine ⟨jW_81, jW_83, (jW_o (by decide) (by decide) (by decide)).trans (hnf), (jW_o (by omega) (by omega) (by omega)).trans (hN), h144, rfl, by omega, rfl, hd.2, rfl, by omega, fun i hi => ?_⟩
    obtain ⟨v9, h1, h2⟩ := cp_wsl_ok (WS := WS) (run := run) (s := s) 8 (fun j hj hb => by
      by_cases hjc : j < cl
      · exact (hlr j hjc).2.2.2.2
      · exact absurd hb (by rw [cp_bt0 s s256 cl hcl hs j hj (by omega)]; decide)) i hi
    have h3 : cx_ws WS run s i = v9 := by unfold cx_ws; rw [h2]; exact nI_clamp (by omega)
    rw [h3]
    exact ⟨h2, h1⟩
  have hv9 : cp_nv (cx_ws WS run s) (ck_ct s 8) many days (se + 1) N := cp_nv0 hNe (by omega) hd.2 (by omega)
  have hF7 : cp_Fc Fp days many se lf s 8 7 = nI (se + 1) := rfl
  have hst9 : ∀ N2, cp_nv (cx_ws WS run s) (ck_ct s 8) many days (se + 1) N2 → ∀ i, i < 39973 → ∃ e : Nat, N2 i = nI e ∧ e < 64 * (se + 2) := fun N2 h => h.1
  have ewh : nI (wh + 1) - 1 = nI wh := pk_sub (by omega : 1 ≤ wh + 1)
  refine kx_mkn kx_tab kxLok_X10 (ini := false) [some (.ref 64), some (.int (nI s)), some (.int (nI days)), some (.int (nI many)), some (.int (nI (wh + 1)))] ⟨by decide, rfl, by decide, by decide⟩ (fun _ _ _ h => ⟨_, h.1⟩) rfl rfl (fun g hB hC hN => ?_)
  have hgo : (cp_stl lf days s 8 = none) ∨ (∃ st, cp_stl lf days s 8 = some st) := by
    cases hst : cp_stl lf days s 8 with
    | none => exact Or.inl rfl
    | some st => exact Or.inr ⟨st, rfl⟩
  have h71 : g 71 [some (.ref 64), some (.int (nI s)), some (.int (nI days)), some (.int (nI many)), some (.int (nI (wh + 1)))] [] (jW P (.ref nt) (cp_Fc Fp days many se lf s 8) (ck_pcl NU s 8) (cp_wsl WS run s 8)) sz 0 0 := by
    rcases hgo with hst | ⟨st, hst⟩
    · have h5 : cp_Fc Fp days many se lf s 8 5 = -1 := by
        show cp_oi (cp_stl lf days s 8) = -1
        rw [hst]
        rfl
      have hid : kx_set (jW P (.ref nt) (cp_Fc Fp days many se lf s 8) (ck_pcl NU s 8) (cp_wsl WS run s 8)) nt (kI 0 39973 N) = (jW P (.ref nt) (cp_Fc Fp days many se lf s 8) (ck_pcl NU s 8) (cp_wsl WS run s 8)) := ks_id hp9.2.2.2.1
      have hN9 : ∃ N2, (jW P (.ref nt) (cp_Fc Fp days many se lf s 8) (ck_pcl NU s 8) (cp_wsl WS run s 8)) = kx_set (jW P (.ref nt) (cp_Fc Fp days many se lf s 8) (ck_pcl NU s 8) (cp_wsl WS run s 8)) nt (kI 0 39973 N2) ∧ ∀ i, i < 39973 → ∃ e : Nat, N2 i = nI e ∧ e < 64 * (se + 2) := ⟨N, hid.symm, hst9 _ hv9⟩
      have hre : some (Value.int (-1)) = some (.int (cx_plv NU WS run lf s days many (wh + 1))) := by rw [cx_plv_n hst]
      refine hB bX10_plan_71 _ _ _ _ _ _ _ kX10_plan_71 ?_
      dsimp only [bX10_plan_71, kx_wp, kx_step, kx_lI, kx_lL, kx_lA, kx_gl, kx_pI, kx_pL, kx_pR, kx_pA, kx_pV, kx_s1, kx_s2, kx_sl, kx_pre, kx_c2, kx_pl, kx_cmp, kx_oF, kx_eqN, kx_nil, kx_c1, kx_ft, kx_aI, kx_aL, kx_aR, kx_ln, Nat.reduceAdd, Option.toList, List.cons_append, List.nil_append, cf10_13, cf10_6]
      repeat (simp only [h64, h64s, h81, ewh, ks_eq, ks_ss]; try dsimp only [kx_wp, kx_step, kx_lI, kx_lL, kx_lA, kx_gl, kx_pI, kx_pL, kx_pR, kx_pA, kx_pV, kx_s1, kx_s2, kx_sl, kx_pre, kx_c2, kx_pl, kx_cmp, kx_oF, kx_eqN, kx_nil, kx_c1, kx_ft, kx_aI, kx_aL, kx_aR, kx_ln, Nat.reduceAdd, Option.toList, List.cons_append, List.nil_append, cf10_13, cf10_6])
      repeat' apply And.intro
      all_goals try (first | with_reducible assumption | (with_reducible refine ck_nzI ?_; simp; done) | (with_reducible refine ck_nzL ?_; simp; done) | (with_reducible refine vp_in_nI ?_ ?_ <;> first | omega | decide) | (with_reducible refine Nat.le_of_ble_eq_true ?_; rfl) | omega | exact Or.inl trivial | exact Or.inr trivial | exact Or.inl rfl | exact Or.inr rfl)
      · intro zc73
        have ze73 := zc73
        refine hB bX10_plan_86 _ _ _ _ _ _ _ kX10_plan_86 ?_
        dsimp only [bX10_plan_86, kx_wp, kx_step, kx_lI, kx_lL, kx_lA, kx_gl, kx_pI, kx_pL, kx_pR, kx_pA, kx_pV, kx_s1, kx_s2, kx_sl, kx_pre, kx_c2, kx_pl, kx_cmp, kx_oF, kx_eqN, kx_nil, kx_c1, kx_ft, kx_aI, kx_aL, kx_aR, kx_ln, Nat.reduceAdd, Option.toList, List.cons_append, List.nil_append, cf10_13, cf10_6]
        repeat (simp only [h64, h64s, h81, ewh, ks_eq, ks_ss]; try dsimp only [kx_wp, kx_step, kx_lI, kx_lL, kx_lA, kx_gl, kx_pI, kx_pL, kx_pR, kx_pA, kx_pV, kx_s1, kx_s2, kx_sl, kx_pre, kx_c2, kx_pl, kx_cmp, kx_oF, kx_eqN, kx_nil, kx_c1, kx_ft, kx_aI, kx_aL, kx_aR, kx_ln, Nat.reduceAdd, Option.toList, List.cons_append, List.nil_append, cf10_13, cf10_6])
        repeat' apply And.intro
        all_goals try (first | with_reducible assumption | (with_reducible refine ck_nzI ?_; simp; done) | (with_reducible refine ck_nzL ?_; simp; done) | (with_reducible refine vp_in_nI ?_ ?_ <;> first | omega | decide) | (with_reducible refine Nat.le_of_ble_eq_true ?_; rfl) | omega | exact Or.inl trivial | exact Or.inr trivial | exact Or.inl rfl | exact Or.inr rfl)
        refine hC.1 286 _ _ _ _ _ _ _ 4 _ _ _ _ _ _ _ _ _ _ _ _ lX10_286 (ct_X4_woundAt_n l G jW_81 h5) ⟨by decide, rfl⟩ (jW_81) rfl rfl (Nat.le_of_ble_eq_true rfl) (by first | decide | omega) (by decide) (by omega) (by omega) dX10_plan_94 ?_
        refine hB bX10_plan_97 _ _ _ _ _ _ _ kX10_plan_97 ?_
        dsimp only [bX10_plan_97, kx_wp, kx_step, kx_lI, kx_lL, kx_lA, kx_gl, kx_pI, kx_pL, kx_pR, kx_pA, kx_pV, kx_s1, kx_s2, kx_sl, kx_pre, kx_c2, kx_pl, kx_cmp, kx_oF, kx_eqN, kx_nil, kx_c1, kx_ft, kx_aI, kx_aL, kx_aR, kx_ln, Nat.reduceAdd, Option.toList, List.cons_append, List.nil_append, cf10_13, cf10_6]
        repeat (simp only [h64, h64s, h81, ewh, ks_eq, ks_ss]; try dsimp only [kx_wp, kx_step, kx_lI, kx_lL, kx_lA, kx_gl, kx_pI, kx_pL, kx_pR, kx_pA, kx_pV, kx_s1, kx_s2, kx_sl, kx_pre, kx_c2, kx_pl, kx_cmp, kx_oF, kx_eqN, kx_nil, kx_c1, kx_ft, kx_aI, kx_aL, kx_aR, kx_ln, Nat.reduceAdd, Option.toList, List.cons_append, List.nil_append, cf10_13, cf10_6])
        all_goals (repeat' apply And.intro)
        all_goals ((try clear hB hC); first | exact True.intro | rfl | exact hre | exact hN9)
      · intro zc73
        first | exact absurd rfl zc73 | exact absurd zc73 (by decide) | exact absurd (by decide) zc73 | (exfalso; first | exact absurd zc6 (by decide) | exact absurd ((nI_ltI (a := days) (b := 1) (by omega) (by omega)).mp zc11) (by omega) | exact absurd ((nI_ltI (a := 10) (b := days) (by omega) (by omega)).mp zc17) (by omega) | exact absurd zc40 (by decide) | exact absurd ((nI_ltI (a := wh + 1) (b := 0) (by omega) (by omega)).mp zc40) (by omega) | exact absurd ((nI_ltI (a := days) (b := wh + 1) (by omega) (by omega)).mp zc46) (by omega) | exact absurd ((nI_ltI (a := days) (b := 0) (by omega) (by omega)).mp zc46) (by omega) | exact zc73 rfl | exact absurd zc73 (by decide) | exact absurd ((nI_eq (a := wh + 1) (b := 0) (by omega) (by omega)).mp (Decidable.not_not.mp zc73)) (by omega) | exact zc30 hmn1 | exact absurd zc30 (by rw [hmn1]; decide) | exact absurd zc35 (by rw [hmn1]; decide) | exact absurd zc30 (by rw [hmn1]; decide) | exact zc35 (by rw [hmn1]; rfl) | exact absurd (by rw [hmn1]; rfl) zc35) | (exfalso; simp_all; done)
    · by_cases hfe : cp_fw (cx_ws WS run s) (ck_ct s 8) many days st < 63
      · have h5 : cp_Fc Fp days many se lf s 8 5 = nI st := by
          show cp_oi (cp_stl lf days s 8) = nI st
          rw [hst]
          rfl
        have hok := cp_stl_ok (lf := lf) (days := days) (s := s) hd.2 8 st hst
        have hm9 := ct_X4_woundAt l G (sz := sz) hp9 hF7 (by omega) hv9 hok h5 jW_82 hwh hfe
        have hre : some (Value.int (cp_nm (ck_pcl NU s 8) (cp_fb (cx_ws WS run s) (ck_ct s 8) many (days - wh - 1) (cp_wn (cx_ws WS run s) (ck_ct s 8) many days st wh)) (ck_ct s 8))) = some (.int (cx_plv NU WS run lf s days many (wh + 1))) := by rw [cx_plv_s hst hfe]
        refine hB bX10_plan_71 _ _ _ _ _ _ _ kX10_plan_71 ?_
        dsimp only [bX10_plan_71, kx_wp, kx_step, kx_lI, kx_lL, kx_lA, kx_gl, kx_pI, kx_pL, kx_pR, kx_pA, kx_pV, kx_s1, kx_s2, kx_sl, kx_pre, kx_c2, kx_pl, kx_cmp, kx_oF, kx_eqN, kx_nil, kx_c1, kx_ft, kx_aI, kx_aL, kx_aR, kx_ln, Nat.reduceAdd, Option.toList, List.cons_append, List.nil_append, cf10_13, cf10_6]
        repeat (simp only [h64, h64s, h81, ewh, ks_eq, ks_ss]; try dsimp only [kx_wp, kx_step, kx_lI, kx_lL, kx_lA, kx_gl, kx_pI, kx_pL, kx_pR, kx_pA, kx_pV, kx_s1, kx_s2, kx_sl, kx_pre, kx_c2, kx_pl, kx_cmp, kx_oF, kx_eqN, kx_nil, kx_c1, kx_ft, kx_aI, kx_aL, kx_aR, kx_ln, Nat.reduceAdd, Option.toList, List.cons_append, List.nil_append, cf10_13, cf10_6])
        repeat' apply And.intro
        all_goals try (first | with_reducible assumption | (with_reducible refine ck_nzI ?_; simp; done) | (with_reducible refine ck_nzL ?_; simp; done) | (with_reducible refine vp_in_nI ?_ ?_ <;> first | omega | decide) | (with_reducible refine Nat.le_of_ble_eq_true ?_; rfl) | omega | exact Or.inl trivial | exact Or.inr trivial | exact Or.inl rfl | exact Or.inr rfl)
        · intro zc73
          have ze73 := zc73
          refine hB bX10_plan_86 _ _ _ _ _ _ _ kX10_plan_86 ?_
          dsimp only [bX10_plan_86, kx_wp, kx_step, kx_lI, kx_lL, kx_lA, kx_gl, kx_pI, kx_pL, kx_pR, kx_pA, kx_pV, kx_s1, kx_s2, kx_sl, kx_pre, kx_c2, kx_pl, kx_cmp, kx_oF, kx_eqN, kx_nil, kx_c1, kx_ft, kx_aI, kx_aL, kx_aR, kx_ln, Nat.reduceAdd, Option.toList, List.cons_append, List.nil_append, cf10_13, cf10_6]
          repeat (simp only [h64, h64s, h81, ewh, ks_eq, ks_ss]; try dsimp only [kx_wp, kx_step, kx_lI, kx_lL, kx_lA, kx_gl, kx_pI, kx_pL, kx_pR, kx_pA, kx_pV, kx_s1, kx_s2, kx_sl, kx_pre, kx_c2, kx_pl, kx_cmp, kx_oF, kx_eqN, kx_nil, kx_c1, kx_ft, kx_aI, kx_aL, kx_aR, kx_ln, Nat.reduceAdd, Option.toList, List.cons_append, List.nil_append, cf10_13, cf10_6])
          repeat' apply And.intro
          all_goals try (first | with_reducible assumption | (with_reducible refine ck_nzI ?_; simp; done) | (with_reducible refine ck_nzL ?_; simp; done) | (with_reducible refine vp_in_nI ?_ ?_ <;> first | omega | decide) | (with_reducible refine Nat.le_of_ble_eq_true ?_; rfl) | omega | exact Or.inl trivial | exact Or.inr trivial | exact Or.inl rfl | exact Or.inr rfl)
          refine hN.1 286 _ _ _ _ _ _ _ 4 _ _ _ _ _ _ _ _ _ _ lX10_286 (hm9) ⟨by decide, rfl⟩ (jW_81) rfl rfl (Nat.le_of_ble_eq_true rfl) (by omega) (by decide) (by omega) (by omega) dX10_plan_94 ?_
          rintro r2 P2 s2 ⟨rfl, ⟨N2, rfl, hN2⟩, rfl⟩
          have hN9 : ∃ N3, kx_set (jW P (.ref nt) (cp_Fc Fp days many se lf s 8) (ck_pcl NU s 8) (cp_wsl WS run s 8)) nt (kI 0 39973 N2) = kx_set (jW P (.ref nt) (cp_Fc Fp days many se lf s 8) (ck_pcl NU s 8) (cp_wsl WS run s 8)) nt (kI 0 39973 N3) ∧ ∀ i, i < 39973 → ∃ e : Nat, N3 i = nI e ∧ e < 64 * (se + 2) := ⟨N2, rfl, hst9 _ hN2⟩
          dsimp only [Option.toList, List.cons_append, List.nil_append]
          refine hB bX10_plan_97 _ _ _ _ _ _ _ kX10_plan_97 ?_
          dsimp only [bX10_plan_97, kx_wp, kx_step, kx_lI, kx_lL, kx_lA, kx_gl, kx_pI, kx_pL, kx_pR, kx_pA, kx_pV, kx_s1, kx_s2, kx_sl, kx_pre, kx_c2, kx_pl, kx_cmp, kx_oF, kx_eqN, kx_nil, kx_c1, kx_ft, kx_aI, kx_aL, kx_aR, kx_ln, Nat.reduceAdd, Option.toList, List.cons_append, List.nil_append, cf10_13, cf10_6]
          repeat (simp only [h64, h64s, h81, ewh, ks_eq, ks_ss]; try dsimp only [kx_wp, kx_step, kx_lI, kx_lL, kx_lA, kx_gl, kx_pI, kx_pL, kx_pR, kx_pA, kx_pV, kx_s1, kx_s2, kx_sl, kx_pre, kx_c2, kx_pl, kx_cmp, kx_oF, kx_eqN, kx_nil, kx_c1, kx_ft, kx_aI, kx_aL, kx_aR, kx_ln, Nat.reduceAdd, Option.toList, List.cons_append, List.nil_append, cf10_13, cf10_6])
          all_goals (repeat' apply And.intro)
          all_goals ((try clear hB hC); first | exact True.intro | rfl | exact hre | exact hN9)
        · intro zc73
          first | exact absurd rfl zc73 | exact absurd zc73 (by decide) | exact absurd (by decide) zc73 | (exfalso; first | exact absurd zc6 (by decide) | exact absurd ((nI_ltI (a := days) (b := 1) (by omega) (by omega)).mp zc11) (by omega) | exact absurd ((nI_ltI (a := 10) (b := days) (by omega) (by omega)).mp zc17) (by omega) | exact absurd zc40 (by decide) | exact absurd ((nI_ltI (a := wh + 1) (b := 0) (by omega) (by omega)).mp zc40) (by omega) | exact absurd ((nI_ltI (a := days) (b := wh + 1) (by omega) (by omega)).mp zc46) (by omega) | exact absurd ((nI_ltI (a := days) (b := 0) (by omega) (by omega)).mp zc46) (by omega) | exact zc73 rfl | exact absurd zc73 (by decide) | exact absurd ((nI_eq (a := wh + 1) (b := 0) (by omega) (by omega)).mp (Decidable.not_not.mp zc73)) (by omega) | exact zc30 hmn1 | exact absurd zc30 (by rw [hmn1]; decide) | exact absurd zc35 (by rw [hmn1]; decide) | exact absurd zc30 (by rw [hmn1]; decide) | exact zc35 (by rw [hmn1]; rfl) | exact absurd (by rw [hmn1]; rfl) zc35) | (exfalso; simp_all; done)
      · have h5 : cp_Fc Fp days many se lf s 8 5 = nI st := by
          show cp_oi (cp_stl lf days s 8) = nI st
          rw [hst]
          rfl
        have hok := cp_stl_ok (lf := lf) (days := days) (s := s) hd.2 8 st hst
        have hm9 := ct_X4_woundAt_b l G (sz := sz) hp9 hF7 (by omega) hv9 hok h5 hfe (x := nI wh)
        have hre : some (Value.int (-1)) = some (.int (cx_plv NU WS run lf s days many (wh + 1))) := by rw [cx_plv_b hst hfe]
        refine hB bX10_plan_71 _ _ _ _ _ _ _ kX10_plan_71 ?_
        dsimp only [bX10_plan_71, kx_wp, kx_step, kx_lI, kx_lL, kx_lA, kx_gl, kx_pI, kx_pL, kx_pR, kx_pA, kx_pV, kx_s1, kx_s2, kx_sl, kx_pre, kx_c2, kx_pl, kx_cmp, kx_oF, kx_eqN, kx_nil, kx_c1, kx_ft, kx_aI, kx_aL, kx_aR, kx_ln, Nat.reduceAdd, Option.toList, List.cons_append, List.nil_append, cf10_13, cf10_6]
        repeat (simp only [h64, h64s, h81, ewh, ks_eq, ks_ss]; try dsimp only [kx_wp, kx_step, kx_lI, kx_lL, kx_lA, kx_gl, kx_pI, kx_pL, kx_pR, kx_pA, kx_pV, kx_s1, kx_s2, kx_sl, kx_pre, kx_c2, kx_pl, kx_cmp, kx_oF, kx_eqN, kx_nil, kx_c1, kx_ft, kx_aI, kx_aL, kx_aR, kx_ln, Nat.reduceAdd, Option.toList, List.cons_append, List.nil_append, cf10_13, cf10_6])
        repeat' apply And.intro
        all_goals try (first | with_reducible assumption | (with_reducible refine ck_nzI ?_; simp; done) | (with_reducible refine ck_nzL ?_; simp; done) | (with_reducible refine vp_in_nI ?_ ?_ <;> first | omega | decide) | (with_reducible refine Nat.le_of_ble_eq_true ?_; rfl) | omega | exact Or.inl trivial | exact Or.inr trivial | exact Or.inl rfl | exact Or.inr rfl)
        · intro zc73
          have ze73 := zc73
          refine hB bX10_plan_86 _ _ _ _ _ _ _ kX10_plan_86 ?_
          dsimp only [bX10_plan_86, kx_wp, kx_step, kx_lI, kx_lL, kx_lA, kx_gl, kx_pI, kx_pL, kx_pR, kx_pA, kx_pV, kx_s1, kx_s2, kx_sl, kx_pre, kx_c2, kx_pl, kx_cmp, kx_oF, kx_eqN, kx_nil, kx_c1, kx_ft, kx_aI, kx_aL, kx_aR, kx_ln, Nat.reduceAdd, Option.toList, List.cons_append, List.nil_append, cf10_13, cf10_6]
          repeat (simp only [h64, h64s, h81, ewh, ks_eq, ks_ss]; try dsimp only [kx_wp, kx_step, kx_lI, kx_lL, kx_lA, kx_gl, kx_pI, kx_pL, kx_pR, kx_pA, kx_pV, kx_s1, kx_s2, kx_sl, kx_pre, kx_c2, kx_pl, kx_cmp, kx_oF, kx_eqN, kx_nil, kx_c1, kx_ft, kx_aI, kx_aL, kx_aR, kx_ln, Nat.reduceAdd, Option.toList, List.cons_append, List.nil_append, cf10_13, cf10_6])
          repeat' apply And.intro
          all_goals try (first | with_reducible assumption | (with_reducible refine ck_nzI ?_; simp; done) | (with_reducible refine ck_nzL ?_; simp; done) | (with_reducible refine vp_in_nI ?_ ?_ <;> first | omega | decide) | (with_reducible refine Nat.le_of_ble_eq_true ?_; rfl) | omega | exact Or.inl trivial | exact Or.inr trivial | exact Or.inl rfl | exact Or.inr rfl)
          refine hN.1 286 _ _ _ _ _ _ _ 4 _ _ _ _ _ _ _ _ _ _ lX10_286 (hm9) ⟨by decide, rfl⟩ (jW_81) rfl rfl (Nat.le_of_ble_eq_true rfl) (by omega) (by decide) (by omega) (by omega) dX10_plan_94 ?_
          rintro r2 P2 s2 ⟨rfl, ⟨N2, rfl, hN2⟩, rfl⟩
          have hN9 : ∃ N3, kx_set (jW P (.ref nt) (cp_Fc Fp days many se lf s 8) (ck_pcl NU s 8) (cp_wsl WS run s 8)) nt (kI 0 39973 N2) = kx_set (jW P (.ref nt) (cp_Fc Fp days many se lf s 8) (ck_pcl NU s 8) (cp_wsl WS run s 8)) nt (kI 0 39973 N3) ∧ ∀ i, i < 39973 → ∃ e : Nat, N3 i = nI e ∧ e < 64 * (se + 2) := ⟨N2, rfl, hst9 _ hN2⟩
          dsimp only [Option.toList, List.cons_append, List.nil_append]
          refine hB bX10_plan_97 _ _ _ _ _ _ _ kX10_plan_97 ?_
          dsimp only [bX10_plan_97, kx_wp, kx_step, kx_lI, kx_lL, kx_lA, kx_gl, kx_pI, kx_pL, kx_pR, kx_pA, kx_pV, kx_s1, kx_s2, kx_sl, kx_pre, kx_c2, kx_pl, kx_cmp, kx_oF, kx_eqN, kx_nil, kx_c1, kx_ft, kx_aI, kx_aL, kx_aR, kx_ln, Nat.reduceAdd, Option.toList, List.cons_append, List.nil_append, cf10_13, cf10_6]
          repeat (simp only [h64, h64s, h81, ewh, ks_eq, ks_ss]; try dsimp only [kx_wp, kx_step, kx_lI, kx_lL, kx_lA, kx_gl, kx_pI, kx_pL, kx_pR, kx_pA, kx_pV, kx_s1, kx_s2, kx_sl, kx_pre, kx_c2, kx_pl, kx_cmp, kx_oF, kx_eqN, kx_nil, kx_c1, kx_ft, kx_aI, kx_aL, kx_aR, kx_ln, Nat.reduceAdd, Option.toList, List.cons_append, List.nil_append, cf10_13, cf10_6])
          all_goals (repeat' apply And.intro)
          all_goals ((try clear hB hC); first | exact True.intro | rfl | exact hre | exact hN9)
        · intro zc73
          first | exact absurd rfl zc73 | exact absurd zc73 (by decide) | exact absurd (by decide) zc73 | (exfalso; first | exact absurd zc6 (by decide) | exact absurd ((nI_ltI (a := days) (b := 1) (by omega) (by omega)).mp zc11) (by omega) | exact absurd ((nI_ltI (a := 10) (b := days) (by omega) (by omega)).mp zc17) (by omega) | exact absurd zc40 (by decide) | exact absurd ((nI_ltI (a := wh + 1) (b := 0) (by omega) (by omega)).mp zc40) (by omega) | exact absurd ((nI_ltI (a := days) (b := wh + 1) (by omega) (by omega)).mp zc46) (by omega) | exact absurd ((nI_ltI (a := days) (b := 0) (by omega) (by omega)).mp zc46) (by omega) | exact zc73 rfl | exact absurd zc73 (by decide) | exact absurd ((nI_eq (a := wh + 1) (b := 0) (by omega) (by omega)).mp (Decidable.not_not.mp zc73)) (by omega) | exact zc30 hmn1 | exact absurd zc30 (by rw [hmn1]; decide) | exact absurd zc35 (by rw [hmn1]; decide) | exact absurd zc30 (by rw [hmn1]; decide) | exact zc35 (by rw [hmn1]; rfl) | exact absurd (by rw [hmn1]; rfl) zc35) | (exfalso; simp_all; done)
  rcases hmn with hmn1 | hmn1
  · refine hB bX10_plan_0 _ _ _ _ _ _ _ kX10_plan_0 ?_
    dsimp only [bX10_plan_0, kx_wp, kx_step, kx_lI, kx_lL, kx_lA, kx_gl, kx_pI, kx_pL, kx_pR, kx_pA, kx_pV, kx_s1, kx_s2, kx_sl, kx_pre, kx_c2, kx_pl, kx_cmp, kx_oF, kx_eqN, kx_nil, kx_c1, kx_ft, kx_aI, kx_aL, kx_aR, kx_ln, Nat.reduceAdd, Option.toList, List.cons_append, List.nil_append, cf10_13, cf10_6]
    repeat (simp only [h64, h64s, h81, ewh, ks_eq, ks_ss]; try dsimp only [kx_wp, kx_step, kx_lI, kx_lL, kx_lA, kx_gl, kx_pI, kx_pL, kx_pR, kx_pA, kx_pV, kx_s1, kx_s2, kx_sl, kx_pre, kx_c2, kx_pl, kx_cmp, kx_oF, kx_eqN, kx_nil, kx_c1, kx_ft, kx_aI, kx_aL, kx_aR, kx_ln, Nat.reduceAdd, Option.toList, List.cons_append, List.nil_append, cf10_13, cf10_6])
    repeat' apply And.intro
    all_goals try (first | with_reducible assumption | (with_reducible refine ck_nzI ?_; simp; done) | (with_reducible refine ck_nzL ?_; simp; done) | (with_reducible refine vp_in_nI ?_ ?_ <;> first | omega | decide) | (with_reducible refine Nat.le_of_ble_eq_true ?_; rfl) | omega | exact Or.inl trivial | exact Or.inr trivial | exact Or.inl rfl | exact Or.inr rfl)
    refine hC.1 261 _ _ _ _ _ _ _ 10 _ _ _ _ _ _ _ _ _ _ _ _ lX10_261 (ct_X10_areClocks l G h64) ⟨by decide, rfl⟩ (h64) rfl rfl (Nat.le_of_ble_eq_true rfl) (by first | decide | omega) (by decide) (by omega) (by omega) dX10_plan_3 ?_
    rw [hac]
    refine hB bX10_plan_6 _ _ _ _ _ _ _ kX10_plan_6 ?_
    dsimp only [bX10_plan_6, kx_wp, kx_step, kx_lI, kx_lL, kx_lA, kx_gl, kx_pI, kx_pL, kx_pR, kx_pA, kx_pV, kx_s1, kx_s2, kx_sl, kx_pre, kx_c2, kx_pl, kx_cmp, kx_oF, kx_eqN, kx_nil, kx_c1, kx_ft, kx_aI, kx_aL, kx_aR, kx_ln, Nat.reduceAdd, Option.toList, List.cons_append, List.nil_append, cf10_13, cf10_6]
    repeat (simp only [h64, h64s, h81, ewh, ks_eq, ks_ss]; try dsimp only [kx_wp, kx_step, kx_lI, kx_lL, kx_lA, kx_gl, kx_pI, kx_pL, kx_pR, kx_pA, kx_pV, kx_s1, kx_s2, kx_sl, kx_pre, kx_c2, kx_pl, kx_cmp, kx_oF, kx_eqN, kx_nil, kx_c1, kx_ft, kx_aI, kx_aL, kx_aR, kx_ln, Nat.reduceAdd, Option.toList, List.cons_append, List.nil_append, cf10_13, cf10_6])
    repeat' apply And.intro
    all_goals try (first | with_reducible assumption | (with_reducible refine ck_nzI ?_; simp; done) | (with_reducible refine ck_nzL ?_; simp; done) | (with_reducible refine vp_in_nI ?_ ?_ <;> first | omega | decide) | (with_reducible refine Nat.le_of_ble_eq_true ?_; rfl) | omega | exact Or.inl trivial | exact Or.inr trivial | exact Or.inl rfl | exact Or.inr rfl)
    · intro zc6
      first | exact absurd rfl zc6 | exact absurd zc6 (by decide) | exact absurd (by decide) zc6 | (exfalso; first | exact absurd zc6 (by decide) | exact absurd ((nI_ltI (a := days) (b := 1) (by omega) (by omega)).mp zc11) (by omega) | exact absurd ((nI_ltI (a := 10) (b := days) (by omega) (by omega)).mp zc17) (by omega) | exact absurd zc40 (by decide) | exact absurd ((nI_ltI (a := wh + 1) (b := 0) (by omega) (by omega)).mp zc40) (by omega) | exact absurd ((nI_ltI (a := days) (b := wh + 1) (by omega) (by omega)).mp zc46) (by omega) | exact absurd ((nI_ltI (a := days) (b := 0) (by omega) (by omega)).mp zc46) (by omega) | exact zc73 rfl | exact absurd zc73 (by decide) | exact absurd ((nI_eq (a := wh + 1) (b := 0) (by omega) (by omega)).mp (Decidable.not_not.mp zc73)) (by omega) | exact zc30 hmn1 | exact absurd zc30 (by rw [hmn1]; decide) | exact absurd zc35 (by rw [hmn1]; decide) | exact absurd zc30 (by rw [hmn1]; decide) | exact zc35 (by rw [hmn1]; rfl) | exact absurd (by rw [hmn1]; rfl) zc35) | (exfalso; simp_all; done)
    · intro zc6
      have ze6 := zc6
      refine hB bX10_plan_9 _ _ _ _ _ _ _ kX10_plan_9 ?_
      dsimp only [bX10_plan_9, kx_wp, kx_step, kx_lI, kx_lL, kx_lA, kx_gl, kx_pI, kx_pL, kx_pR, kx_pA, kx_pV, kx_s1, kx_s2, kx_sl, kx_pre, kx_c2, kx_pl, kx_cmp, kx_oF, kx_eqN, kx_nil, kx_c1, kx_ft, kx_aI, kx_aL, kx_aR, kx_ln, Nat.reduceAdd, Option.toList, List.cons_append, List.nil_append, cf10_13, cf10_6]
      repeat (simp only [h64, h64s, h81, ewh, ks_eq, ks_ss]; try dsimp only [kx_wp, kx_step, kx_lI, kx_lL, kx_lA, kx_gl, kx_pI, kx_pL, kx_pR, kx_pA, kx_pV, kx_s1, kx_s2, kx_sl, kx_pre, kx_c2, kx_pl, kx_cmp, kx_oF, kx_eqN, kx_nil, kx_c1, kx_ft, kx_aI, kx_aL, kx_aR, kx_ln, Nat.reduceAdd, Option.toList, List.cons_append, List.nil_append, cf10_13, cf10_6])
      repeat' apply And.intro
      all_goals try (first | with_reducible assumption | (with_reducible refine ck_nzI ?_; simp; done) | (with_reducible refine ck_nzL ?_; simp; done) | (with_reducible refine vp_in_nI ?_ ?_ <;> first | omega | decide) | (with_reducible refine Nat.le_of_ble_eq_true ?_; rfl) | omega | exact Or.inl trivial | exact Or.inr trivial | exact Or.inl rfl | exact Or.inr rfl)
      · intro zc11
        first | exact absurd rfl zc11 | exact absurd zc11 (by decide) | exact absurd (by decide) zc11 | (exfalso; first | exact absurd zc6 (by decide) | exact absurd ((nI_ltI (a := days) (b := 1) (by omega) (by omega)).mp zc11) (by omega) | exact absurd ((nI_ltI (a := 10) (b := days) (by omega) (by omega)).mp zc17) (by omega) | exact absurd zc40 (by decide) | exact absurd ((nI_ltI (a := wh + 1) (b := 0) (by omega) (by omega)).mp zc40) (by omega) | exact absurd ((nI_ltI (a := days) (b := wh + 1) (by omega) (by omega)).mp zc46) (by omega) | exact absurd ((nI_ltI (a := days) (b := 0) (by omega) (by omega)).mp zc46) (by omega) | exact zc73 rfl | exact absurd zc73 (by decide) | exact absurd ((nI_eq (a := wh + 1) (b := 0) (by omega) (by omega)).mp (Decidable.not_not.mp zc73)) (by omega) | exact zc30 hmn1 | exact absurd zc30 (by rw [hmn1]; decide) | exact absurd zc35 (by rw [hmn1]; decide) | exact absurd zc30 (by rw [hmn1]; decide) | exact zc35 (by rw [hmn1]; rfl) | exact absurd (by rw [hmn1]; rfl) zc35) | (exfalso; simp_all; done)
      · intro zc11
        with_reducible first | have ze11 := Int32.not_lt.mp zc11 | have ze11 := zc11
        refine hB bX10_plan_14 _ _ _ _ _ _ _ kX10_plan_14 ?_
        dsimp only [bX10_plan_14, kx_wp, kx_step, kx_lI, kx_lL, kx_lA, kx_gl, kx_pI, kx_pL, kx_pR, kx_pA, kx_pV, kx_s1, kx_s2, kx_sl, kx_pre, kx_c2, kx_pl, kx_cmp, kx_oF, kx_eqN, kx_nil, kx_c1, kx_ft, kx_aI, kx_aL, kx_aR, kx_ln, Nat.reduceAdd, Option.toList, List.cons_append, List.nil_append, cf10_13, cf10_6]
        repeat (simp only [h64, h64s, h81, ewh, ks_eq, ks_ss]; try dsimp only [kx_wp, kx_step, kx_lI, kx_lL, kx_lA, kx_gl, kx_pI, kx_pL, kx_pR, kx_pA, kx_pV, kx_s1, kx_s2, kx_sl, kx_pre, kx_c2, kx_pl, kx_cmp, kx_oF, kx_eqN, kx_nil, kx_c1, kx_ft, kx_aI, kx_aL, kx_aR, kx_ln, Nat.reduceAdd, Option.toList, List.cons_append, List.nil_append, cf10_13, cf10_6])
        repeat' apply And.intro
        all_goals try (first | with_reducible assumption | (with_reducible refine ck_nzI ?_; simp; done) | (with_reducible refine ck_nzL ?_; simp; done) | (with_reducible refine vp_in_nI ?_ ?_ <;> first | omega | decide) | (with_reducible refine Nat.le_of_ble_eq_true ?_; rfl) | omega | exact Or.inl trivial | exact Or.inr trivial | exact Or.inl rfl | exact Or.inr rfl)
        · intro zc17
          first | exact absurd rfl zc17 | exact absurd zc17 (by decide) | exact absurd (by decide) zc17 | (exfalso; first | exact absurd zc6 (by decide) | exact absurd ((nI_ltI (a := days) (b := 1) (by omega) (by omega)).mp zc11) (by omega) | exact absurd ((nI_ltI (a := 10) (b := days) (by omega) (by omega)).mp zc17) (by omega) | exact absurd zc40 (by decide) | exact absurd ((nI_ltI (a := wh + 1) (b := 0) (by omega) (by omega)).mp zc40) (by omega) | exact absurd ((nI_ltI (a := days) (b := wh + 1) (by omega) (by omega)).mp zc46) (by omega) | exact absurd ((nI_ltI (a := days) (b := 0) (by omega) (by omega)).mp zc46) (by omega) | exact zc73 rfl | exact absurd zc73 (by decide) | exact absurd ((nI_eq (a := wh + 1) (b := 0) (by omega) (by omega)).mp (Decidable.not_not.mp zc73)) (by omega) | exact zc30 hmn1 | exact absurd zc30 (by rw [hmn1]; decide) | exact absurd zc35 (by rw [hmn1]; decide) | exact absurd zc30 (by rw [hmn1]; decide) | exact zc35 (by rw [hmn1]; rfl) | exact absurd (by rw [hmn1]; rfl) zc35) | (exfalso; simp_all; done)
        · intro zc17
          with_reducible first | have ze17 := Int32.not_lt.mp zc17 | have ze17 := zc17
          refine hB bX10_plan_20 _ _ _ _ _ _ _ kX10_plan_20 ?_
          dsimp only [bX10_plan_20, kx_wp, kx_step, kx_lI, kx_lL, kx_lA, kx_gl, kx_pI, kx_pL, kx_pR, kx_pA, kx_pV, kx_s1, kx_s2, kx_sl, kx_pre, kx_c2, kx_pl, kx_cmp, kx_oF, kx_eqN, kx_nil, kx_c1, kx_ft, kx_aI, kx_aL, kx_aR, kx_ln, Nat.reduceAdd, Option.toList, List.cons_append, List.nil_append, cf10_13, cf10_6]
          repeat (simp only [h64, h64s, h81, ewh, ks_eq, ks_ss]; try dsimp only [kx_wp, kx_step, kx_lI, kx_lL, kx_lA, kx_gl, kx_pI, kx_pL, kx_pR, kx_pA, kx_pV, kx_s1, kx_s2, kx_sl, kx_pre, kx_c2, kx_pl, kx_cmp, kx_oF, kx_eqN, kx_nil, kx_c1, kx_ft, kx_aI, kx_aL, kx_aR, kx_ln, Nat.reduceAdd, Option.toList, List.cons_append, List.nil_append, cf10_13, cf10_6])
          repeat' apply And.intro
          all_goals try (first | with_reducible assumption | (with_reducible refine ck_nzI ?_; simp; done) | (with_reducible refine ck_nzL ?_; simp; done) | (with_reducible refine vp_in_nI ?_ ?_ <;> first | omega | decide) | (with_reducible refine Nat.le_of_ble_eq_true ?_; rfl) | omega | exact Or.inl trivial | exact Or.inr trivial | exact Or.inl rfl | exact Or.inr rfl)
          refine hC.2.1 95 _ _ _ _ _ _ _ _ _ _ _ _ _ _ _ _ _ lX10_95 (ct_X10_need l G (b := 1) (by decide)) rfl rfl (Nat.le_of_ble_eq_true rfl) (by first | decide | omega) (by decide) (by omega) (by omega) dX10_plan_25 ?_
          refine hB bX10_plan_28 _ _ _ _ _ _ _ kX10_plan_28 ?_
          dsimp only [bX10_plan_28, kx_wp, kx_step, kx_lI, kx_lL, kx_lA, kx_gl, kx_pI, kx_pL, kx_pR, kx_pA, kx_pV, kx_s1, kx_s2, kx_sl, kx_pre, kx_c2, kx_pl, kx_cmp, kx_oF, kx_eqN, kx_nil, kx_c1, kx_ft, kx_aI, kx_aL, kx_aR, kx_ln, Nat.reduceAdd, Option.toList, List.cons_append, List.nil_append, cf10_13, cf10_6]
          repeat (simp only [h64, h64s, h81, ewh, ks_eq, ks_ss]; try dsimp only [kx_wp, kx_step, kx_lI, kx_lL, kx_lA, kx_gl, kx_pI, kx_pL, kx_pR, kx_pA, kx_pV, kx_s1, kx_s2, kx_sl, kx_pre, kx_c2, kx_pl, kx_cmp, kx_oF, kx_eqN, kx_nil, kx_c1, kx_ft, kx_aI, kx_aL, kx_aR, kx_ln, Nat.reduceAdd, Option.toList, List.cons_append, List.nil_append, cf10_13, cf10_6])
          repeat' apply And.intro
          all_goals try (first | with_reducible assumption | (with_reducible refine ck_nzI ?_; simp; done) | (with_reducible refine ck_nzL ?_; simp; done) | (with_reducible refine vp_in_nI ?_ ?_ <;> first | omega | decide) | (with_reducible refine Nat.le_of_ble_eq_true ?_; rfl) | omega | exact Or.inl trivial | exact Or.inr trivial | exact Or.inl rfl | exact Or.inr rfl)
          · intro zc30
            have ze30 := zc30
            refine hB bX10_plan_38 _ _ _ _ _ _ _ kX10_plan_38 ?_
            dsimp only [bX10_plan_38, kx_wp, kx_step, kx_lI, kx_lL, kx_lA, kx_gl, kx_pI, kx_pL, kx_pR, kx_pA, kx_pV, kx_s1, kx_s2, kx_sl, kx_pre, kx_c2, kx_pl, kx_cmp, kx_oF, kx_eqN, kx_nil, kx_c1, kx_ft, kx_aI, kx_aL, kx_aR, kx_ln, Nat.reduceAdd, Option.toList, List.cons_append, List.nil_append, cf10_13, cf10_6]
            repeat (simp only [h64, h64s, h81, ewh, ks_eq, ks_ss]; try dsimp only [kx_wp, kx_step, kx_lI, kx_lL, kx_lA, kx_gl, kx_pI, kx_pL, kx_pR, kx_pA, kx_pV, kx_s1, kx_s2, kx_sl, kx_pre, kx_c2, kx_pl, kx_cmp, kx_oF, kx_eqN, kx_nil, kx_c1, kx_ft, kx_aI, kx_aL, kx_aR, kx_ln, Nat.reduceAdd, Option.toList, List.cons_append, List.nil_append, cf10_13, cf10_6])
            repeat' apply And.intro
            all_goals try (first | with_reducible assumption | (with_reducible refine ck_nzI ?_; simp; done) | (with_reducible refine ck_nzL ?_; simp; done) | (with_reducible refine vp_in_nI ?_ ?_ <;> first | omega | decide) | (with_reducible refine Nat.le_of_ble_eq_true ?_; rfl) | omega | exact Or.inl trivial | exact Or.inr trivial | exact Or.inl rfl | exact Or.inr rfl)
            · intro zc40
              first | exact absurd rfl zc40 | exact absurd zc40 (by decide) | exact absurd (by decide) zc40 | (exfalso; first | exact absurd zc6 (by decide) | exact absurd ((nI_ltI (a := days) (b := 1) (by omega) (by omega)).mp zc11) (by omega) | exact absurd ((nI_ltI (a := 10) (b := days) (by omega) (by omega)).mp zc17) (by omega) | exact absurd zc40 (by decide) | exact absurd ((nI_ltI (a := wh + 1) (b := 0) (by omega) (by omega)).mp zc40) (by omega) | exact absurd ((nI_ltI (a := days) (b := wh + 1) (by omega) (by omega)).mp zc46) (by omega) | exact absurd ((nI_ltI (a := days) (b := 0) (by omega) (by omega)).mp zc46) (by omega) | exact zc73 rfl | exact absurd zc73 (by decide) | exact absurd ((nI_eq (a := wh + 1) (b := 0) (by omega) (by omega)).mp (Decidable.not_not.mp zc73)) (by omega) | exact zc30 hmn1 | exact absurd zc30 (by rw [hmn1]; decide) | exact absurd zc35 (by rw [hmn1]; decide) | exact absurd zc30 (by rw [hmn1]; decide) | exact zc35 (by rw [hmn1]; rfl) | exact absurd (by rw [hmn1]; rfl) zc35) | (exfalso; simp_all; done)
            · intro zc40
              with_reducible first | have ze40 := Int32.not_lt.mp zc40 | have ze40 := zc40
              refine hB bX10_plan_43 _ _ _ _ _ _ _ kX10_plan_43 ?_
              dsimp only [bX10_plan_43, kx_wp, kx_step, kx_lI, kx_lL, kx_lA, kx_gl, kx_pI, kx_pL, kx_pR, kx_pA, kx_pV, kx_s1, kx_s2, kx_sl, kx_pre, kx_c2, kx_pl, kx_cmp, kx_oF, kx_eqN, kx_nil, kx_c1, kx_ft, kx_aI, kx_aL, kx_aR, kx_ln, Nat.reduceAdd, Option.toList, List.cons_append, List.nil_append, cf10_13, cf10_6]
              repeat (simp only [h64, h64s, h81, ewh, ks_eq, ks_ss]; try dsimp only [kx_wp, kx_step, kx_lI, kx_lL, kx_lA, kx_gl, kx_pI, kx_pL, kx_pR, kx_pA, kx_pV, kx_s1, kx_s2, kx_sl, kx_pre, kx_c2, kx_pl, kx_cmp, kx_oF, kx_eqN, kx_nil, kx_c1, kx_ft, kx_aI, kx_aL, kx_aR, kx_ln, Nat.reduceAdd, Option.toList, List.cons_append, List.nil_append, cf10_13, cf10_6])
              repeat' apply And.intro
              all_goals try (first | with_reducible assumption | (with_reducible refine ck_nzI ?_; simp; done) | (with_reducible refine ck_nzL ?_; simp; done) | (with_reducible refine vp_in_nI ?_ ?_ <;> first | omega | decide) | (with_reducible refine Nat.le_of_ble_eq_true ?_; rfl) | omega | exact Or.inl trivial | exact Or.inr trivial | exact Or.inl rfl | exact Or.inr rfl)
              · intro zc46
                first | exact absurd rfl zc46 | exact absurd zc46 (by decide) | exact absurd (by decide) zc46 | (exfalso; first | exact absurd zc6 (by decide) | exact absurd ((nI_ltI (a := days) (b := 1) (by omega) (by omega)).mp zc11) (by omega) | exact absurd ((nI_ltI (a := 10) (b := days) (by omega) (by omega)).mp zc17) (by omega) | exact absurd zc40 (by decide) | exact absurd ((nI_ltI (a := wh + 1) (b := 0) (by omega) (by omega)).mp zc40) (by omega) | exact absurd ((nI_ltI (a := days) (b := wh + 1) (by omega) (by omega)).mp zc46) (by omega) | exact absurd ((nI_ltI (a := days) (b := 0) (by omega) (by omega)).mp zc46) (by omega) | exact zc73 rfl | exact absurd zc73 (by decide) | exact absurd ((nI_eq (a := wh + 1) (b := 0) (by omega) (by omega)).mp (Decidable.not_not.mp zc73)) (by omega) | exact zc30 hmn1 | exact absurd zc30 (by rw [hmn1]; decide) | exact absurd zc35 (by rw [hmn1]; decide) | exact absurd zc30 (by rw [hmn1]; decide) | exact zc35 (by rw [hmn1]; rfl) | exact absurd (by rw [hmn1]; rfl) zc35) | (exfalso; simp_all; done)
              · intro zc46
                with_reducible first | have ze46 := Int32.not_lt.mp zc46 | have ze46 := zc46
                refine hB bX10_plan_49 _ _ _ _ _ _ _ kX10_plan_49 ?_
                dsimp only [bX10_plan_49, kx_wp, kx_step, kx_lI, kx_lL, kx_lA, kx_gl, kx_pI, kx_pL, kx_pR, kx_pA, kx_pV, kx_s1, kx_s2, kx_sl, kx_pre, kx_c2, kx_pl, kx_cmp, kx_oF, kx_eqN, kx_nil, kx_c1, kx_ft, kx_aI, kx_aL, kx_aR, kx_ln, Nat.reduceAdd, Option.toList, List.cons_append, List.nil_append, cf10_13, cf10_6]
                repeat (simp only [h64, h64s, h81, ewh, ks_eq, ks_ss]; try dsimp only [kx_wp, kx_step, kx_lI, kx_lL, kx_lA, kx_gl, kx_pI, kx_pL, kx_pR, kx_pA, kx_pV, kx_s1, kx_s2, kx_sl, kx_pre, kx_c2, kx_pl, kx_cmp, kx_oF, kx_eqN, kx_nil, kx_c1, kx_ft, kx_aI, kx_aL, kx_aR, kx_ln, Nat.reduceAdd, Option.toList, List.cons_append, List.nil_append, cf10_13, cf10_6])
                repeat' apply And.intro
                all_goals try (first | with_reducible assumption | (with_reducible refine ck_nzI ?_; simp; done) | (with_reducible refine ck_nzL ?_; simp; done) | (with_reducible refine vp_in_nI ?_ ?_ <;> first | omega | decide) | (with_reducible refine Nat.le_of_ble_eq_true ?_; rfl) | omega | exact Or.inl trivial | exact Or.inr trivial | exact Or.inl rfl | exact Or.inr rfl)
                refine hC.2.1 95 _ _ _ _ _ _ _ _ _ _ _ _ _ _ _ _ _ lX10_95 (ct_X10_need l G (b := 1) (by decide)) rfl rfl (Nat.le_of_ble_eq_true rfl) (by first | decide | omega) (by decide) (by omega) (by omega) dX10_plan_54 ?_
                refine hB bX10_plan_57 _ _ _ _ _ _ _ kX10_plan_57 ?_
                dsimp only [bX10_plan_57, kx_wp, kx_step, kx_lI, kx_lL, kx_lA, kx_gl, kx_pI, kx_pL, kx_pR, kx_pA, kx_pV, kx_s1, kx_s2, kx_sl, kx_pre, kx_c2, kx_pl, kx_cmp, kx_oF, kx_eqN, kx_nil, kx_c1, kx_ft, kx_aI, kx_aL, kx_aR, kx_ln, Nat.reduceAdd, Option.toList, List.cons_append, List.nil_append, cf10_13, cf10_6]
                repeat (simp only [h64, h64s, h81, ewh, ks_eq, ks_ss]; try dsimp only [kx_wp, kx_step, kx_lI, kx_lL, kx_lA, kx_gl, kx_pI, kx_pL, kx_pR, kx_pA, kx_pV, kx_s1, kx_s2, kx_sl, kx_pre, kx_c2, kx_pl, kx_cmp, kx_oF, kx_eqN, kx_nil, kx_c1, kx_ft, kx_aI, kx_aL, kx_aR, kx_ln, Nat.reduceAdd, Option.toList, List.cons_append, List.nil_append, cf10_13, cf10_6])
                repeat' apply And.intro
                all_goals try (first | with_reducible assumption | (with_reducible refine ck_nzI ?_; simp; done) | (with_reducible refine ck_nzL ?_; simp; done) | (with_reducible refine vp_in_nI ?_ ?_ <;> first | omega | decide) | (with_reducible refine Nat.le_of_ble_eq_true ?_; rfl) | omega | exact Or.inl trivial | exact Or.inr trivial | exact Or.inl rfl | exact Or.inr rfl)
                refine hC.1 281 _ _ _ _ _ _ _ 4 _ _ _ _ _ _ _ _ _ _ _ _ lX10_281 (hb9) ⟨by decide, rfl⟩ (h81) rfl rfl (Nat.le_of_ble_eq_true rfl) (by first | decide | omega) (by decide) (by omega) (by omega) dX10_plan_68 ?_
                exact h71
          · intro zc30
            first | exact absurd rfl zc30 | exact absurd zc30 (by decide) | exact absurd (by decide) zc30 | (exfalso; first | exact absurd zc6 (by decide) | exact absurd ((nI_ltI (a := days) (b := 1) (by omega) (by omega)).mp zc11) (by omega) | exact absurd ((nI_ltI (a := 10) (b := days) (by omega) (by omega)).mp zc17) (by omega) | exact absurd zc40 (by decide) | exact absurd ((nI_ltI (a := wh + 1) (b := 0) (by omega) (by omega)).mp zc40) (by omega) | exact absurd ((nI_ltI (a := days) (b := wh + 1) (by omega) (by omega)).mp zc46) (by omega) | exact absurd ((nI_ltI (a := days) (b := 0) (by omega) (by omega)).mp zc46) (by omega) | exact zc73 rfl | exact absurd zc73 (by decide) | exact absurd ((nI_eq (a := wh + 1) (b := 0) (by omega) (by omega)).mp (Decidable.not_not.mp zc73)) (by omega) | exact zc30 hmn1 | exact absurd zc30 (by rw [hmn1]; decide) | exact absurd zc35 (by rw [hmn1]; decide) | exact absurd zc30 (by rw [hmn1]; decide) | exact zc35 (by rw [hmn1]; rfl) | exact absurd (by rw [hmn1]; rfl) zc35) | (exfalso; simp_all; done)
  · refine hB bX10_plan_0 _ _ _ _ _ _ _ kX10_plan_0 ?_
    dsimp only [bX10_plan_0, kx_wp, kx_step, kx_lI, kx_lL, kx_lA, kx_gl, kx_pI, kx_pL, kx_pR, kx_pA, kx_pV, kx_s1, kx_s2, kx_sl, kx_pre, kx_c2, kx_pl, kx_cmp, kx_oF, kx_eqN, kx_nil, kx_c1, kx_ft, kx_aI, kx_aL, kx_aR, kx_ln, Nat.reduceAdd, Option.toList, List.cons_append, List.nil_append, cf10_13, cf10_6]
    repeat (simp only [h64, h64s, h81, ewh, ks_eq, ks_ss]; try dsimp only [kx_wp, kx_step, kx_lI, kx_lL, kx_lA, kx_gl, kx_pI, kx_pL, kx_pR, kx_pA, kx_pV, kx_s1, kx_s2, kx_sl, kx_pre, kx_c2, kx_pl, kx_cmp, kx_oF, kx_eqN, kx_nil, kx_c1, kx_ft, kx_aI, kx_aL, kx_aR, kx_ln, Nat.reduceAdd, Option.toList, List.cons_append, List.nil_append, cf10_13, cf10_6])
    repeat' apply And.intro
    all_goals try (first | with_reducible assumption | (with_reducible refine ck_nzI ?_; simp; done) | (with_reducible refine ck_nzL ?_; simp; done) | (with_reducible refine vp_in_nI ?_ ?_ <;> first | omega | decide) | (with_reducible refine Nat.le_of_ble_eq_true ?_; rfl) | omega | exact Or.inl trivial | exact Or.inr trivial | exact Or.inl rfl | exact Or.inr rfl)
    refine hC.1 261 _ _ _ _ _ _ _ 10 _ _ _ _ _ _ _ _ _ _ _ _ lX10_261 (ct_X10_areClocks l G h64) ⟨by decide, rfl⟩ (h64) rfl rfl (Nat.le_of_ble_eq_true rfl) (by first | decide | omega) (by decide) (by omega) (by omega) dX10_plan_3 ?_
    rw [hac]
    refine hB bX10_plan_6 _ _ _ _ _ _ _ kX10_plan_6 ?_
    dsimp only [bX10_plan_6, kx_wp, kx_step, kx_lI, kx_lL, kx_lA, kx_gl, kx_pI, kx_pL, kx_pR, kx_pA, kx_pV, kx_s1, kx_s2, kx_sl, kx_pre, kx_c2, kx_pl, kx_cmp, kx_oF, kx_eqN, kx_nil, kx_c1, kx_ft, kx_aI, kx_aL, kx_aR, kx_ln, Nat.reduceAdd, Option.toList, List.cons_append, List.nil_append, cf10_13, cf10_6]
    repeat (simp only [h64, h64s, h81, ewh, ks_eq, ks_ss]; try dsimp only [kx_wp, kx_step, kx_lI, kx_lL, kx_lA, kx_gl, kx_pI, kx_pL, kx_pR, kx_pA, kx_pV, kx_s1, kx_s2, kx_sl, kx_pre, kx_c2, kx_pl, kx_cmp, kx_oF, kx_eqN, kx_nil, kx_c1, kx_ft, kx_aI, kx_aL, kx_aR, kx_ln, Nat.reduceAdd, Option.toList, List.cons_append, List.nil_append, cf10_13, cf10_6])
    repeat' apply And.intro
    all_goals try (first | with_reducible assumption | (with_reducible refine ck_nzI ?_; simp; done) | (with_reducible refine ck_nzL ?_; simp; done) | (with_reducible refine vp_in_nI ?_ ?_ <;> first | omega | decide) | (with_reducible refine Nat.le_of_ble_eq_true ?_; rfl) | omega | exact Or.inl trivial | exact Or.inr trivial | exact Or.inl rfl | exact Or.inr rfl)
    · intro zc6
      first | exact absurd rfl zc6 | exact absurd zc6 (by decide) | exact absurd (by decide) zc6 | (exfalso; first | exact absurd zc6 (by decide) | exact absurd ((nI_ltI (a := days) (b := 1) (by omega) (by omega)).mp zc11) (by omega) | exact absurd ((nI_ltI (a := 10) (b := days) (by omega) (by omega)).mp zc17) (by omega) | exact absurd zc40 (by decide) | exact absurd ((nI_ltI (a := wh + 1) (b := 0) (by omega) (by omega)).mp zc40) (by omega) | exact absurd ((nI_ltI (a := days) (b := wh + 1) (by omega) (by omega)).mp zc46) (by omega) | exact absurd ((nI_ltI (a := days) (b := 0) (by omega) (by omega)).mp zc46) (by omega) | exact zc73 rfl | exact absurd zc73 (by decide) | exact absurd ((nI_eq (a := wh + 1) (b := 0) (by omega) (by omega)).mp (Decidable.not_not.mp zc73)) (by omega) | exact zc30 hmn1 | exact absurd zc30 (by rw [hmn1]; decide) | exact absurd zc35 (by rw [hmn1]; decide) | exact absurd zc30 (by rw [hmn1]; decide) | exact zc35 (by rw [hmn1]; rfl) | exact absurd (by rw [hmn1]; rfl) zc35) | (exfalso; simp_all; done)
    · intro zc6
      have ze6 := zc6
      refine hB bX10_plan_9 _ _ _ _ _ _ _ kX10_plan_9 ?_
      dsimp only [bX10_plan_9, kx_wp, kx_step, kx_lI, kx_lL, kx_lA, kx_gl, kx_pI, kx_pL, kx_pR, kx_pA, kx_pV, kx_s1, kx_s2, kx_sl, kx_pre, kx_c2, kx_pl, kx_cmp, kx_oF, kx_eqN, kx_nil, kx_c1, kx_ft, kx_aI, kx_aL, kx_aR, kx_ln, Nat.reduceAdd, Option.toList, List.cons_append, List.nil_append, cf10_13, cf10_6]
      repeat (simp only [h64, h64s, h81, ewh, ks_eq, ks_ss]; try dsimp only [kx_wp, kx_step, kx_lI, kx_lL, kx_lA, kx_gl, kx_pI, kx_pL, kx_pR, kx_pA, kx_pV, kx_s1, kx_s2, kx_sl, kx_pre, kx_c2, kx_pl, kx_cmp, kx_oF, kx_eqN, kx_nil, kx_c1, kx_ft, kx_aI, kx_aL, kx_aR, kx_ln, Nat.reduceAdd, Option.toList, List.cons_append, List.nil_append, cf10_13, cf10_6])
      repeat' apply And.intro
      all_goals try (first | with_reducible assumption | (with_reducible refine ck_nzI ?_; simp; done) | (with_reducible refine ck_nzL ?_; simp; done) | (with_reducible refine vp_in_nI ?_ ?_ <;> first | omega | decide) | (with_reducible refine Nat.le_of_ble_eq_true ?_; rfl) | omega | exact Or.inl trivial | exact Or.inr trivial | exact Or.inl rfl | exact Or.inr rfl)
      · intro zc11
        first | exact absurd rfl zc11 | exact absurd zc11 (by decide) | exact absurd (by decide) zc11 | (exfalso; first | exact absurd zc6 (by decide) | exact absurd ((nI_ltI (a := days) (b := 1) (by omega) (by omega)).mp zc11) (by omega) | exact absurd ((nI_ltI (a := 10) (b := days) (by omega) (by omega)).mp zc17) (by omega) | exact absurd zc40 (by decide) | exact absurd ((nI_ltI (a := wh + 1) (b := 0) (by omega) (by omega)).mp zc40) (by omega) | exact absurd ((nI_ltI (a := days) (b := wh + 1) (by omega) (by omega)).mp zc46) (by omega) | exact absurd ((nI_ltI (a := days) (b := 0) (by omega) (by omega)).mp zc46) (by omega) | exact zc73 rfl | exact absurd zc73 (by decide) | exact absurd ((nI_eq (a := wh + 1) (b := 0) (by omega) (by omega)).mp (Decidable.not_not.mp zc73)) (by omega) | exact zc30 hmn1 | exact absurd zc30 (by rw [hmn1]; decide) | exact absurd zc35 (by rw [hmn1]; decide) | exact absurd zc30 (by rw [hmn1]; decide) | exact zc35 (by rw [hmn1]; rfl) | exact absurd (by rw [hmn1]; rfl) zc35) | (exfalso; simp_all; done)
      · intro zc11
        with_reducible first | have ze11 := Int32.not_lt.mp zc11 | have ze11 := zc11
        refine hB bX10_plan_14 _ _ _ _ _ _ _ kX10_plan_14 ?_
        dsimp only [bX10_plan_14, kx_wp, kx_step, kx_lI, kx_lL, kx_lA, kx_gl, kx_pI, kx_pL, kx_pR, kx_pA, kx_pV, kx_s1, kx_s2, kx_sl, kx_pre, kx_c2, kx_pl, kx_cmp, kx_oF, kx_eqN, kx_nil, kx_c1, kx_ft, kx_aI, kx_aL, kx_aR, kx_ln, Nat.reduceAdd, Option.toList, List.cons_append, List.nil_append, cf10_13, cf10_6]
        repeat (simp only [h64, h64s, h81, ewh, ks_eq, ks_ss]; try dsimp only [kx_wp, kx_step, kx_lI, kx_lL, kx_lA, kx_gl, kx_pI, kx_pL, kx_pR, kx_pA, kx_pV, kx_s1, kx_s2, kx_sl, kx_pre, kx_c2, kx_pl, kx_cmp, kx_oF, kx_eqN, kx_nil, kx_c1, kx_ft, kx_aI, kx_aL, kx_aR, kx_ln, Nat.reduceAdd, Option.toList, List.cons_append, List.nil_append, cf10_13, cf10_6])
        repeat' apply And.intro
        all_goals try (first | with_reducible assumption | (with_reducible refine ck_nzI ?_; simp; done) | (with_reducible refine ck_nzL ?_; simp; done) | (with_reducible refine vp_in_nI ?_ ?_ <;> first | omega | decide) | (with_reducible refine Nat.le_of_ble_eq_true ?_; rfl) | omega | exact Or.inl trivial | exact Or.inr trivial | exact Or.inl rfl | exact Or.inr rfl)
        · intro zc17
          first | exact absurd rfl zc17 | exact absurd zc17 (by decide) | exact absurd (by decide) zc17 | (exfalso; first | exact absurd zc6 (by decide) | exact absurd ((nI_ltI (a := days) (b := 1) (by omega) (by omega)).mp zc11) (by omega) | exact absurd ((nI_ltI (a := 10) (b := days) (by omega) (by omega)).mp zc17) (by omega) | exact absurd zc40 (by decide) | exact absurd ((nI_ltI (a := wh + 1) (b := 0) (by omega) (by omega)).mp zc40) (by omega) | exact absurd ((nI_ltI (a := days) (b := wh + 1) (by omega) (by omega)).mp zc46) (by omega) | exact absurd ((nI_ltI (a := days) (b := 0) (by omega) (by omega)).mp zc46) (by omega) | exact zc73 rfl | exact absurd zc73 (by decide) | exact absurd ((nI_eq (a := wh + 1) (b := 0) (by omega) (by omega)).mp (Decidable.not_not.mp zc73)) (by omega) | exact zc30 hmn1 | exact absurd zc30 (by rw [hmn1]; decide) | exact absurd zc35 (by rw [hmn1]; decide) | exact absurd zc30 (by rw [hmn1]; decide) | exact zc35 (by rw [hmn1]; rfl) | exact absurd (by rw [hmn1]; rfl) zc35) | (exfalso; simp_all; done)
        · intro zc17
          with_reducible first | have ze17 := Int32.not_lt.mp zc17 | have ze17 := zc17
          refine hB bX10_plan_20 _ _ _ _ _ _ _ kX10_plan_20 ?_
          dsimp only [bX10_plan_20, kx_wp, kx_step, kx_lI, kx_lL, kx_lA, kx_gl, kx_pI, kx_pL, kx_pR, kx_pA, kx_pV, kx_s1, kx_s2, kx_sl, kx_pre, kx_c2, kx_pl, kx_cmp, kx_oF, kx_eqN, kx_nil, kx_c1, kx_ft, kx_aI, kx_aL, kx_aR, kx_ln, Nat.reduceAdd, Option.toList, List.cons_append, List.nil_append, cf10_13, cf10_6]
          repeat (simp only [h64, h64s, h81, ewh, ks_eq, ks_ss]; try dsimp only [kx_wp, kx_step, kx_lI, kx_lL, kx_lA, kx_gl, kx_pI, kx_pL, kx_pR, kx_pA, kx_pV, kx_s1, kx_s2, kx_sl, kx_pre, kx_c2, kx_pl, kx_cmp, kx_oF, kx_eqN, kx_nil, kx_c1, kx_ft, kx_aI, kx_aL, kx_aR, kx_ln, Nat.reduceAdd, Option.toList, List.cons_append, List.nil_append, cf10_13, cf10_6])
          repeat' apply And.intro
          all_goals try (first | with_reducible assumption | (with_reducible refine ck_nzI ?_; simp; done) | (with_reducible refine ck_nzL ?_; simp; done) | (with_reducible refine vp_in_nI ?_ ?_ <;> first | omega | decide) | (with_reducible refine Nat.le_of_ble_eq_true ?_; rfl) | omega | exact Or.inl trivial | exact Or.inr trivial | exact Or.inl rfl | exact Or.inr rfl)
          refine hC.2.1 95 _ _ _ _ _ _ _ _ _ _ _ _ _ _ _ _ _ lX10_95 (ct_X10_need l G (b := 1) (by decide)) rfl rfl (Nat.le_of_ble_eq_true rfl) (by first | decide | omega) (by decide) (by omega) (by omega) dX10_plan_25 ?_
          refine hB bX10_plan_28 _ _ _ _ _ _ _ kX10_plan_28 ?_
          dsimp only [bX10_plan_28, kx_wp, kx_step, kx_lI, kx_lL, kx_lA, kx_gl, kx_pI, kx_pL, kx_pR, kx_pA, kx_pV, kx_s1, kx_s2, kx_sl, kx_pre, kx_c2, kx_pl, kx_cmp, kx_oF, kx_eqN, kx_nil, kx_c1, kx_ft, kx_aI, kx_aL, kx_aR, kx_ln, Nat.reduceAdd, Option.toList, List.cons_append, List.nil_append, cf10_13, cf10_6]
          repeat (simp only [h64, h64s, h81, ewh, ks_eq, ks_ss]; try dsimp only [kx_wp, kx_step, kx_lI, kx_lL, kx_lA, kx_gl, kx_pI, kx_pL, kx_pR, kx_pA, kx_pV, kx_s1, kx_s2, kx_sl, kx_pre, kx_c2, kx_pl, kx_cmp, kx_oF, kx_eqN, kx_nil, kx_c1, kx_ft, kx_aI, kx_aL, kx_aR, kx_ln, Nat.reduceAdd, Option.toList, List.cons_append, List.nil_append, cf10_13, cf10_6])
          repeat' apply And.intro
          all_goals try (first | with_reducible assumption | (with_reducible refine ck_nzI ?_; simp; done) | (with_reducible refine ck_nzL ?_; simp; done) | (with_reducible refine vp_in_nI ?_ ?_ <;> first | omega | decide) | (with_reducible refine Nat.le_of_ble_eq_true ?_; rfl) | omega | exact Or.inl trivial | exact Or.inr trivial | exact Or.inl rfl | exact Or.inr rfl)
          · intro zc30
            first | exact absurd rfl zc30 | exact absurd zc30 (by decide) | exact absurd (by decide) zc30 | (exfalso; first | exact absurd zc6 (by decide) | exact absurd ((nI_ltI (a := days) (b := 1) (by omega) (by omega)).mp zc11) (by omega) | exact absurd ((nI_ltI (a := 10) (b := days) (by omega) (by omega)).mp zc17) (by omega) | exact absurd zc40 (by decide) | exact absurd ((nI_ltI (a := wh + 1) (b := 0) (by omega) (by omega)).mp zc40) (by omega) | exact absurd ((nI_ltI (a := days) (b := wh + 1) (by omega) (by omega)).mp zc46) (by omega) | exact absurd ((nI_ltI (a := days) (b := 0) (by omega) (by omega)).mp zc46) (by omega) | exact zc73 rfl | exact absurd zc73 (by decide) | exact absurd ((nI_eq (a := wh + 1) (b := 0) (by omega) (by omega)).mp (Decidable.not_not.mp zc73)) (by omega) | exact zc30 hmn1 | exact absurd zc30 (by rw [hmn1]; decide) | exact absurd zc35 (by rw [hmn1]; decide) | exact absurd zc30 (by rw [hmn1]; decide) | exact zc35 (by rw [hmn1]; rfl) | exact absurd (by rw [hmn1]; rfl) zc35) | (exfalso; simp_all; done)
          · intro zc30
            have ze30 := zc30
            refine hB bX10_plan_33 _ _ _ _ _ _ _ kX10_plan_33 ?_
            dsimp only [bX10_plan_33, kx_wp, kx_step, kx_lI, kx_lL, kx_lA, kx_gl, kx_pI, kx_pL, kx_pR, kx_pA, kx_pV, kx_s1, kx_s2, kx_sl, kx_pre, kx_c2, kx_pl, kx_cmp, kx_oF, kx_eqN, kx_nil, kx_c1, kx_ft, kx_aI, kx_aL, kx_aR, kx_ln, Nat.reduceAdd, Option.toList, List.cons_append, List.nil_append, cf10_13, cf10_6]
            repeat (simp only [h64, h64s, h81, ewh, ks_eq, ks_ss]; try dsimp only [kx_wp, kx_step, kx_lI, kx_lL, kx_lA, kx_gl, kx_pI, kx_pL, kx_pR, kx_pA, kx_pV, kx_s1, kx_s2, kx_sl, kx_pre, kx_c2, kx_pl, kx_cmp, kx_oF, kx_eqN, kx_nil, kx_c1, kx_ft, kx_aI, kx_aL, kx_aR, kx_ln, Nat.reduceAdd, Option.toList, List.cons_append, List.nil_append, cf10_13, cf10_6])
            repeat' apply And.intro
            all_goals try (first | with_reducible assumption | (with_reducible refine ck_nzI ?_; simp; done) | (with_reducible refine ck_nzL ?_; simp; done) | (with_reducible refine vp_in_nI ?_ ?_ <;> first | omega | decide) | (with_reducible refine Nat.le_of_ble_eq_true ?_; rfl) | omega | exact Or.inl trivial | exact Or.inr trivial | exact Or.inl rfl | exact Or.inr rfl)
            · intro zc35
              first | exact absurd rfl zc35 | exact absurd zc35 (by decide) | exact absurd (by decide) zc35 | (exfalso; first | exact absurd zc6 (by decide) | exact absurd ((nI_ltI (a := days) (b := 1) (by omega) (by omega)).mp zc11) (by omega) | exact absurd ((nI_ltI (a := 10) (b := days) (by omega) (by omega)).mp zc17) (by omega) | exact absurd zc40 (by decide) | exact absurd ((nI_ltI (a := wh + 1) (b := 0) (by omega) (by omega)).mp zc40) (by omega) | exact absurd ((nI_ltI (a := days) (b := wh + 1) (by omega) (by omega)).mp zc46) (by omega) | exact absurd ((nI_ltI (a := days) (b := 0) (by omega) (by omega)).mp zc46) (by omega) | exact zc73 rfl | exact absurd zc73 (by decide) | exact absurd ((nI_eq (a := wh + 1) (b := 0) (by omega) (by omega)).mp (Decidable.not_not.mp zc73)) (by omega) | exact zc30 hmn1 | exact absurd zc30 (by rw [hmn1]; decide) | exact absurd zc35 (by rw [hmn1]; decide) | exact absurd zc30 (by rw [hmn1]; decide) | exact zc35 (by rw [hmn1]; rfl) | exact absurd (by rw [hmn1]; rfl) zc35) | (exfalso; simp_all; done)
            · intro zc35
              with_reducible first | have ze35 := Decidable.not_not.mp zc35 | have ze35 := zc35
              refine hB bX10_plan_38 _ _ _ _ _ _ _ kX10_plan_38 ?_
              dsimp only [bX10_plan_38, kx_wp, kx_step, kx_lI, kx_lL, kx_lA, kx_gl, kx_pI, kx_pL, kx_pR, kx_pA, kx_pV, kx_s1, kx_s2, kx_sl, kx_pre, kx_c2, kx_pl, kx_cmp, kx_oF, kx_eqN, kx_nil, kx_c1, kx_ft, kx_aI, kx_aL, kx_aR, kx_ln, Nat.reduceAdd, Option.toList, List.cons_append, List.nil_append, cf10_13, cf10_6]
              repeat (simp only [h64, h64s, h81, ewh, ks_eq, ks_ss]; try dsimp only [kx_wp, kx_step, kx_lI, kx_lL, kx_lA, kx_gl, kx_pI, kx_pL, kx_pR, kx_pA, kx_pV, kx_s1, kx_s2, kx_sl, kx_pre, kx_c2, kx_pl, kx_cmp, kx_oF, kx_eqN, kx_nil, kx_c1, kx_ft, kx_aI, kx_aL, kx_aR, kx_ln, Nat.reduceAdd, Option.toList, List.cons_append, List.nil_append, cf10_13, cf10_6])
              repeat' apply And.intro
              all_goals try (first | with_reducible assumption | (with_reducible refine ck_nzI ?_; simp; done) | (with_reducible refine ck_nzL ?_; simp; done) | (with_reducible refine vp_in_nI ?_ ?_ <;> first | omega | decide) | (with_reducible refine Nat.le_of_ble_eq_true ?_; rfl) | omega | exact Or.inl trivial | exact Or.inr trivial | exact Or.inl rfl | exact Or.inr rfl)
              · intro zc40
                first | exact absurd rfl zc40 | exact absurd zc40 (by decide) | exact absurd (by decide) zc40 | (exfalso; first | exact absurd zc6 (by decide) | exact absurd ((nI_ltI (a := days) (b := 1) (by omega) (by omega)).mp zc11) (by omega) | exact absurd ((nI_ltI (a := 10) (b := days) (by omega) (by omega)).mp zc17) (by omega) | exact absurd zc40 (by decide) | exact absurd ((nI_ltI (a := wh + 1) (b := 0) (by omega) (by omega)).mp zc40) (by omega) | exact absurd ((nI_ltI (a := days) (b := wh + 1) (by omega) (by omega)).mp zc46) (by omega) | exact absurd ((nI_ltI (a := days) (b := 0) (by omega) (by omega)).mp zc46) (by omega) | exact zc73 rfl | exact absurd zc73 (by decide) | exact absurd ((nI_eq (a := wh + 1) (b := 0) (by omega) (by omega)).mp (Decidable.not_not.mp zc73)) (by omega) | exact zc30 hmn1 | exact absurd zc30 (by rw [hmn1]; decide) | exact absurd zc35 (by rw [hmn1]; decide) | exact absurd zc30 (by rw [hmn1]; decide) | exact zc35 (by rw [hmn1]; rfl) | exact absurd (by rw [hmn1]; rfl) zc35) | (exfalso; simp_all; done)
              · intro zc40
                with_reducible first | have ze40 := Int32.not_lt.mp zc40 | have ze40 := zc40
                refine hB bX10_plan_43 _ _ _ _ _ _ _ kX10_plan_43 ?_
                dsimp only [bX10_plan_43, kx_wp, kx_step, kx_lI, kx_lL, kx_lA, kx_gl, kx_pI, kx_pL, kx_pR, kx_pA, kx_pV, kx_s1, kx_s2, kx_sl, kx_pre, kx_c2, kx_pl, kx_cmp, kx_oF, kx_eqN, kx_nil, kx_c1, kx_ft, kx_aI, kx_aL, kx_aR, kx_ln, Nat.reduceAdd, Option.toList, List.cons_append, List.nil_append, cf10_13, cf10_6]
                repeat (simp only [h64, h64s, h81, ewh, ks_eq, ks_ss]; try dsimp only [kx_wp, kx_step, kx_lI, kx_lL, kx_lA, kx_gl, kx_pI, kx_pL, kx_pR, kx_pA, kx_pV, kx_s1, kx_s2, kx_sl, kx_pre, kx_c2, kx_pl, kx_cmp, kx_oF, kx_eqN, kx_nil, kx_c1, kx_ft, kx_aI, kx_aL, kx_aR, kx_ln, Nat.reduceAdd, Option.toList, List.cons_append, List.nil_append, cf10_13, cf10_6])
                repeat' apply And.intro
                all_goals try (first | with_reducible assumption | (with_reducible refine ck_nzI ?_; simp; done) | (with_reducible refine ck_nzL ?_; simp; done) | (with_reducible refine vp_in_nI ?_ ?_ <;> first | omega | decide) | (with_reducible refine Nat.le_of_ble_eq_true ?_; rfl) | omega | exact Or.inl trivial | exact Or.inr trivial | exact Or.inl rfl | exact Or.inr rfl)
                · intro zc46
                  first | exact absurd rfl zc46 | exact absurd zc46 (by decide) | exact absurd (by decide) zc46 | (exfalso; first | exact absurd zc6 (by decide) | exact absurd ((nI_ltI (a := days) (b := 1) (by omega) (by omega)).mp zc11) (by omega) | exact absurd ((nI_ltI (a := 10) (b := days) (by omega) (by omega)).mp zc17) (by omega) | exact absurd zc40 (by decide) | exact absurd ((nI_ltI (a := wh + 1) (b := 0) (by omega) (by omega)).mp zc40) (by omega) | exact absurd ((nI_ltI (a := days) (b := wh + 1) (by omega) (by omega)).mp zc46) (by omega) | exact absurd ((nI_ltI (a := days) (b := 0) (by omega) (by omega)).mp zc46) (by omega) | exact zc73 rfl | exact absurd zc73 (by decide) | exact absurd ((nI_eq (a := wh + 1) (b := 0) (by omega) (by omega)).mp (Decidable.not_not.mp zc73)) (by omega) | exact zc30 hmn1 | exact absurd zc30 (by rw [hmn1]; decide) | exact absurd zc35 (by rw [hmn1]; decide) | exact absurd zc30 (by rw [hmn1]; decide) | exact zc35 (by rw [hmn1]; rfl) | exact absurd (by rw [hmn1]; rfl) zc35) | (exfalso; simp_all; done)
                · intro zc46
                  with_reducible first | have ze46 := Int32.not_lt.mp zc46 | have ze46 := zc46
                  refine hB bX10_plan_49 _ _ _ _ _ _ _ kX10_plan_49 ?_
                  dsimp only [bX10_plan_49, kx_wp, kx_step, kx_lI, kx_lL, kx_lA, kx_gl, kx_pI, kx_pL, kx_pR, kx_pA, kx_pV, kx_s1, kx_s2, kx_sl, kx_pre, kx_c2, kx_pl, kx_cmp, kx_oF, kx_eqN, kx_nil, kx_c1, kx_ft, kx_aI, kx_aL, kx_aR, kx_ln, Nat.reduceAdd, Option.toList, List.cons_append, List.nil_append, cf10_13, cf10_6]
                  repeat (simp only [h64, h64s, h81, ewh, ks_eq, ks_ss]; try dsimp only [kx_wp, kx_step, kx_lI, kx_lL, kx_lA, kx_gl, kx_pI, kx_pL, kx_pR, kx_pA, kx_pV, kx_s1, kx_s2, kx_sl, kx_pre, kx_c2, kx_pl, kx_cmp, kx_oF, kx_eqN, kx_nil, kx_c1, kx_ft, kx_aI, kx_aL, kx_aR, kx_ln, Nat.reduceAdd, Option.toList, List.cons_append, List.nil_append, cf10_13, cf10_6])
                  repeat' apply And.intro
                  all_goals try (first | with_reducible assumption | (with_reducible refine ck_nzI ?_; simp; done) | (with_reducible refine ck_nzL ?_; simp; done) | (with_reducible refine vp_in_nI ?_ ?_ <;> first | omega | decide) | (with_reducible refine Nat.le_of_ble_eq_true ?_; rfl) | omega | exact Or.inl trivial | exact Or.inr trivial | exact Or.inl rfl | exact Or.inr rfl)
                  refine hC.2.1 95 _ _ _ _ _ _ _ _ _ _ _ _ _ _ _ _ _ lX10_95 (ct_X10_need l G (b := 1) (by decide)) rfl rfl (Nat.le_of_ble_eq_true rfl) (by first | decide | omega) (by decide) (by omega) (by omega) dX10_plan_54 ?_
                  refine hB bX10_plan_57 _ _ _ _ _ _ _ kX10_plan_57 ?_
                  dsimp only [bX10_plan_57, kx_wp, kx_step, kx_lI, kx_lL, kx_lA, kx_gl, kx_pI, kx_pL, kx_pR, kx_pA, kx_pV, kx_s1, kx_s2, kx_sl, kx_pre, kx_c2, kx_pl, kx_cmp, kx_oF, kx_eqN, kx_nil, kx_c1, kx_ft, kx_aI, kx_aL, kx_aR, kx_ln, Nat.reduceAdd, Option.toList, List.cons_append, List.nil_append, cf10_13, cf10_6]
                  repeat (simp only [h64, h64s, h81, ewh, ks_eq, ks_ss]; try dsimp only [kx_wp, kx_step, kx_lI, kx_lL, kx_lA, kx_gl, kx_pI, kx_pL, kx_pR, kx_pA, kx_pV, kx_s1, kx_s2, kx_sl, kx_pre, kx_c2, kx_pl, kx_cmp, kx_oF, kx_eqN, kx_nil, kx_c1, kx_ft, kx_aI, kx_aL, kx_aR, kx_ln, Nat.reduceAdd, Option.toList, List.cons_append, List.nil_append, cf10_13, cf10_6])
                  repeat' apply And.intro
                  all_goals try (first | with_reducible assumption | (with_reducible refine ck_nzI ?_; simp; done) | (with_reducible refine ck_nzL ?_; simp; done) | (with_reducible refine vp_in_nI ?_ ?_ <;> first | omega | decide) | (with_reducible refine Nat.le_of_ble_eq_true ?_; rfl) | omega | exact Or.inl trivial | exact Or.inr trivial | exact Or.inl rfl | exact Or.inr rfl)
                  refine hC.1 281 _ _ _ _ _ _ _ 4 _ _ _ _ _ _ _ _ _ _ _ _ lX10_281 (hb9) ⟨by decide, rfl⟩ (h81) rfl rfl (Nat.le_of_ble_eq_true rfl) (by first | decide | omega) (by decide) (by omega) (by omega) dX10_plan_68 ?_
                  exact h71

set_option maxRecDepth 100000 in
set_option maxHeartbeats 4000000 in
theorem ct_X10_plan_n0 (l : Launch) (G : kx_G) {P : kx_P} {sz : Nat} {sv : Value} {K : Nat → Int32} (h64 : P 64 = kO 10 (kf (cr10 sv) K)) {Fp NU WS : Nat → Int32} (h82 : P 82 = kI 0 4 NU) (h83 : P 83 = kI 0 4 WS) (hnf : P 2 = kI 5 11 cj_nf) {cl : Nat} (hcl : cl ≤ 8) {cn wn : Nat → Nat} {DD : Nat → Int64} {HH : Nat → Value} {CC VV : Nat → Nat → Int32} (hCS : cx_CS P cl cn wn DD HH CC VV) {lf run : Nat → Nat} (hlr : ∀ i, i < cl → CC i 6 = nI (lf i) ∧ lf i ≤ 44640 ∧ VV i 0 = nI (run i) ∧ 1 ≤ run i ∧ run i ≤ 31) {s days many se : Nat} (hs : s < 2 ^ cl) (hs4 : ck_pc s ≤ 4) (hd : 1 ≤ days ∧ days ≤ 10) (hmn : many = 1 ∨ many = 2) (h7 : Fp 7 = nI se) (hse : se ≤ 999) (hac : cx_ac (nI s) (K 7) 4 = 1) (h81 : P 81 = kO 4 (kf (cr4 .null) Fp)) (hfr : P sz = none) (hsz : 144 ≤ sz)  : kx_Mn l G sX10_plan 30 1 39973 [.ref 64, .int (nI s), .int (nI days), .int (nI many), .int (0)] P sz (fun r P2 s2 => r = some (.int (cx_plv NU WS run lf s days many 0)) ∧ (∃ N2, P2 = kx_set (jW (kx_set P sz (kI 0 39973 (fun _ => 0))) (.ref sz) (cp_Fc Fp days many se lf s 8) (ck_pcl NU s 8) (cp_wsl WS run s 8)) sz (kI 0 39973 N2) ∧ ∀ i, i < 39973 → ∃ e : Nat, N2 i = nI e ∧ e < 64 * (se + 2)) ∧ s2 = (sz + 1)) := by
  have hJ : jW P (.null) Fp NU WS = P := by unfold jW; rw [ks_id h82, ks_id h83, ks_id h81]
  have hb9 := ct_X4_begin_n l G (sz := sz) hcl hCS hlr (F := Fp) (NU := NU) (WS := WS) (many := many) hs hs4 hd h7 (by omega : se ≤ 1000) hfr hsz
  rw [hJ] at hb9
  have h144 : 144 ≤ sz := hsz
  have s256 : s < 256 := Nat.lt_of_lt_of_le hs (Nat.le_trans (Nat.pow_le_pow_right (n := 2) (by decide) hcl) (by decide))
  have hct : ck_ct s 8 = ck_pc s := ck_ct_pc 8 (by omega) s s256
  have h64s : (jW (kx_set P sz (kI 0 39973 (fun _ => 0))) (.ref sz) (cp_Fc Fp days many se lf s 8) (ck_pcl NU s 8) (cp_wsl WS run s 8)) 64 = kO 10 (kf (cr10 sv) K) := (jW_o (by decide) (by decide) (by decide)).trans ((ks_ne (by omega)).trans h64)
  have hp9 : cp_H (jW (kx_set P sz (kI 0 39973 (fun _ => 0))) (.ref sz) (cp_Fc Fp days many se lf s 8) (ck_pcl NU s 8) (cp_wsl WS run s 8)) sz (cp_Fc Fp days many se lf s 8) (cp_wsl WS run s 8) (fun _ => 0) (cx_ws WS run s) (ck_ct s 8) days many := by
    refine ⟨jW_81, jW_83, (jW_o (by decide) (by decide) (by decide)).trans ((ks_ne (by omega)).trans hnf), (jW_o (by omega) (by omega) (by omega)).trans (ks_eq _ _ _), h144, rfl, by omega, rfl, hd.2, rfl, by omega, fun i hi => ?_⟩
    obtain ⟨v9, h1, h2⟩ := cp_wsl_ok (WS := WS) (run := run) (s := s) 8 (fun j hj hb => by
      by_cases hjc : j < cl
      · exact (hlr j hjc).2.2.2.2
      · exact absurd hb (by rw [cp_bt0 s s256 cl hcl hs j hj (by omega)]; decide)) i hi
    have h3 : cx_ws WS run s i = v9 := by unfold cx_ws; rw [h2]; exact nI_clamp (by omega)
    rw [h3]
    exact ⟨h2, h1⟩
  have hv9 : cp_nv (cx_ws WS run s) (ck_ct s 8) many days (se + 1) (fun _ => 0) := cp_nv0 (fun i _ => ⟨0, rfl, by omega⟩) (by omega) hd.2 (by omega)
  have hF7 : cp_Fc Fp days many se lf s 8 7 = nI (se + 1) := rfl
  have hst9 : ∀ N2, cp_nv (cx_ws WS run s) (ck_ct s 8) many days (se + 1) N2 → ∀ i, i < 39973 → ∃ e : Nat, N2 i = nI e ∧ e < 64 * (se + 2) := fun N2 h => h.1
  refine kx_mkn kx_tab kxLok_X10 (ini := false) [some (.ref 64), some (.int (nI s)), some (.int (nI days)), some (.int (nI many)), some (.int (0))] ⟨by decide, rfl, by decide, by decide⟩ (fun _ _ _ h => ⟨_, h.1⟩) rfl rfl (fun g hB hC hN => ?_)
  have hgo : (cp_stl lf days s 8 = none) ∨ (∃ st, cp_stl lf days s 8 = some st) := by
    cases hst : cp_stl lf days s 8 with
    | none => exact Or.inl rfl
    | some st => exact Or.inr ⟨st, rfl⟩
  have h71 : g 71 [some (.ref 64), some (.int (nI s)), some (.int (nI days)), some (.int (nI many)), some (.int (0))] [] (jW (kx_set P sz (kI 0 39973 (fun _ => 0))) (.ref sz) (cp_Fc Fp days many se lf s 8) (ck_pcl NU s 8) (cp_wsl WS run s 8)) (sz + 1) (0 + 1) (0 + 39973) := by
    rcases hgo with hst | ⟨st, hst⟩
    · have h5 : cp_Fc Fp days many se lf s 8 5 = -1 := by
        show cp_oi (cp_stl lf days s 8) = -1
        rw [hst]
        rfl
      have hid : kx_set (jW (kx_set P sz (kI 0 39973 (fun _ => 0))) (.ref sz) (cp_Fc Fp days many se lf s 8) (ck_pcl NU s 8) (cp_wsl WS run s 8)) sz (kI 0 39973 (fun _ => 0)) = (jW (kx_set P sz (kI 0 39973 (fun _ => 0))) (.ref sz) (cp_Fc Fp days many se lf s 8) (ck_pcl NU s 8) (cp_wsl WS run s 8)) := ks_id hp9.2.2.2.1
      have hN9 : ∃ N2, (jW (kx_set P sz (kI 0 39973 (fun _ => 0))) (.ref sz) (cp_Fc Fp days many se lf s 8) (ck_pcl NU s 8) (cp_wsl WS run s 8)) = kx_set (jW (kx_set P sz (kI 0 39973 (fun _ => 0))) (.ref sz) (cp_Fc Fp days many se lf s 8) (ck_pcl NU s 8) (cp_wsl WS run s 8)) sz (kI 0 39973 N2) ∧ ∀ i, i < 39973 → ∃ e : Nat, N2 i = nI e ∧ e < 64 * (se + 2) := ⟨(fun _ => 0), hid.symm, hst9 _ hv9⟩
      have hre : some (Value.int (-1)) = some (.int (cx_plv NU WS run lf s days many 0)) := by rw [cx_plv_n hst]
      refine hB bX10_plan_71 _ _ _ _ _ _ _ kX10_plan_71 ?_
      dsimp only [bX10_plan_71, kx_wp, kx_step, kx_lI, kx_lL, kx_lA, kx_gl, kx_pI, kx_pL, kx_pR, kx_pA, kx_pV, kx_s1, kx_s2, kx_sl, kx_pre, kx_c2, kx_pl, kx_cmp, kx_oF, kx_eqN, kx_nil, kx_c1, kx_ft, kx_aI, kx_aL, kx_aR, kx_ln, Nat.reduceAdd, Option.toList, List.cons_append, List.nil_append, cf10_13, cf10_6]
      repeat (simp only [h64, h64s, h81, ks_eq, ks_ss]; try dsimp only [kx_wp, kx_step, kx_lI, kx_lL, kx_lA, kx_gl, kx_pI, kx_pL, kx_pR, kx_pA, kx_pV, kx_s1, kx_s2, kx_sl, kx_pre, kx_c2, kx_pl, kx_cmp, kx_oF, kx_eqN, kx_nil, kx_c1, kx_ft, kx_aI, kx_aL, kx_aR, kx_ln, Nat.reduceAdd, Option.toList, List.cons_append, List.nil_append, cf10_13, cf10_6])
      repeat' apply And.intro
      all_goals try (first | with_reducible assumption | (with_reducible refine ck_nzI ?_; simp; done) | (with_reducible refine ck_nzL ?_; simp; done) | (with_reducible refine vp_in_nI ?_ ?_ <;> first | omega | decide) | (with_reducible refine Nat.le_of_ble_eq_true ?_; rfl) | omega | exact Or.inl trivial | exact Or.inr trivial | exact Or.inl rfl | exact Or.inr rfl)
      · intro zc73
        first | exact absurd rfl zc73 | exact absurd zc73 (by decide) | exact absurd (by decide) zc73 | (exfalso; first | exact absurd zc6 (by decide) | exact absurd ((nI_ltI (a := days) (b := 1) (by omega) (by omega)).mp zc11) (by omega) | exact absurd ((nI_ltI (a := 10) (b := days) (by omega) (by omega)).mp zc17) (by omega) | exact absurd zc40 (by decide) | exact absurd ((nI_ltI (a := wh + 1) (b := 0) (by omega) (by omega)).mp zc40) (by omega) | exact absurd ((nI_ltI (a := days) (b := wh + 1) (by omega) (by omega)).mp zc46) (by omega) | exact absurd ((nI_ltI (a := days) (b := 0) (by omega) (by omega)).mp zc46) (by omega) | exact zc73 rfl | exact absurd zc73 (by decide) | exact absurd ((nI_eq (a := wh + 1) (b := 0) (by omega) (by omega)).mp (Decidable.not_not.mp zc73)) (by omega) | exact zc30 hmn1 | exact absurd zc30 (by rw [hmn1]; decide) | exact absurd zc35 (by rw [hmn1]; decide) | exact absurd zc30 (by rw [hmn1]; decide) | exact zc35 (by rw [hmn1]; rfl) | exact absurd (by rw [hmn1]; rfl) zc35) | (exfalso; simp_all; done)
      · intro zc73
        with_reducible first | have ze73 := Decidable.not_not.mp zc73 | have ze73 := zc73
        refine hB bX10_plan_76 _ _ _ _ _ _ _ kX10_plan_76 ?_
        dsimp only [bX10_plan_76, kx_wp, kx_step, kx_lI, kx_lL, kx_lA, kx_gl, kx_pI, kx_pL, kx_pR, kx_pA, kx_pV, kx_s1, kx_s2, kx_sl, kx_pre, kx_c2, kx_pl, kx_cmp, kx_oF, kx_eqN, kx_nil, kx_c1, kx_ft, kx_aI, kx_aL, kx_aR, kx_ln, Nat.reduceAdd, Option.toList, List.cons_append, List.nil_append, cf10_13, cf10_6]
        repeat (simp only [h64, h64s, h81, ks_eq, ks_ss]; try dsimp only [kx_wp, kx_step, kx_lI, kx_lL, kx_lA, kx_gl, kx_pI, kx_pL, kx_pR, kx_pA, kx_pV, kx_s1, kx_s2, kx_sl, kx_pre, kx_c2, kx_pl, kx_cmp, kx_oF, kx_eqN, kx_nil, kx_c1, kx_ft, kx_aI, kx_aL, kx_aR, kx_ln, Nat.reduceAdd, Option.toList, List.cons_append, List.nil_append, cf10_13, cf10_6])
        repeat' apply And.intro
        all_goals try (first | with_reducible assumption | (with_reducible refine ck_nzI ?_; simp; done) | (with_reducible refine ck_nzL ?_; simp; done) | (with_reducible refine vp_in_nI ?_ ?_ <;> first | omega | decide) | (with_reducible refine Nat.le_of_ble_eq_true ?_; rfl) | omega | exact Or.inl trivial | exact Or.inr trivial | exact Or.inl rfl | exact Or.inr rfl)
        refine hC.1 283 _ _ _ _ _ _ _ 4 _ _ _ _ _ _ _ _ _ _ _ _ lX10_283 (ct_X4_windings_n l G jW_81 h5) ⟨by decide, rfl⟩ (jW_81) rfl rfl (Nat.le_of_ble_eq_true rfl) (by first | decide | omega) (by decide) (by omega) (by omega) dX10_plan_80 ?_
        refine hB bX10_plan_83 _ _ _ _ _ _ _ kX10_plan_83 ?_
        dsimp only [bX10_plan_83, kx_wp, kx_step, kx_lI, kx_lL, kx_lA, kx_gl, kx_pI, kx_pL, kx_pR, kx_pA, kx_pV, kx_s1, kx_s2, kx_sl, kx_pre, kx_c2, kx_pl, kx_cmp, kx_oF, kx_eqN, kx_nil, kx_c1, kx_ft, kx_aI, kx_aL, kx_aR, kx_ln, Nat.reduceAdd, Option.toList, List.cons_append, List.nil_append, cf10_13, cf10_6]
        repeat (simp only [h64, h64s, h81, ks_eq, ks_ss]; try dsimp only [kx_wp, kx_step, kx_lI, kx_lL, kx_lA, kx_gl, kx_pI, kx_pL, kx_pR, kx_pA, kx_pV, kx_s1, kx_s2, kx_sl, kx_pre, kx_c2, kx_pl, kx_cmp, kx_oF, kx_eqN, kx_nil, kx_c1, kx_ft, kx_aI, kx_aL, kx_aR, kx_ln, Nat.reduceAdd, Option.toList, List.cons_append, List.nil_append, cf10_13, cf10_6])
        repeat' apply And.intro
        all_goals try (first | with_reducible assumption | (with_reducible refine ck_nzI ?_; simp; done) | (with_reducible refine ck_nzL ?_; simp; done) | (with_reducible refine vp_in_nI ?_ ?_ <;> first | omega | decide) | (with_reducible refine Nat.le_of_ble_eq_true ?_; rfl) | omega | exact Or.inl trivial | exact Or.inr trivial | exact Or.inl rfl | exact Or.inr rfl)
        refine hB bX10_plan_97 _ _ _ _ _ _ _ kX10_plan_97 ?_
        dsimp only [bX10_plan_97, kx_wp, kx_step, kx_lI, kx_lL, kx_lA, kx_gl, kx_pI, kx_pL, kx_pR, kx_pA, kx_pV, kx_s1, kx_s2, kx_sl, kx_pre, kx_c2, kx_pl, kx_cmp, kx_oF, kx_eqN, kx_nil, kx_c1, kx_ft, kx_aI, kx_aL, kx_aR, kx_ln, Nat.reduceAdd, Option.toList, List.cons_append, List.nil_append, cf10_13, cf10_6]
        repeat (simp only [h64, h64s, h81, ks_eq, ks_ss]; try dsimp only [kx_wp, kx_step, kx_lI, kx_lL, kx_lA, kx_gl, kx_pI, kx_pL, kx_pR, kx_pA, kx_pV, kx_s1, kx_s2, kx_sl, kx_pre, kx_c2, kx_pl, kx_cmp, kx_oF, kx_eqN, kx_nil, kx_c1, kx_ft, kx_aI, kx_aL, kx_aR, kx_ln, Nat.reduceAdd, Option.toList, List.cons_append, List.nil_append, cf10_13, cf10_6])
        all_goals (repeat' apply And.intro)
        all_goals ((try clear hB hC); first | exact True.intro | rfl | exact hre | exact hN9)
    · have h5 : cp_Fc Fp days many se lf s 8 5 = nI st := by
        show cp_oi (cp_stl lf days s 8) = nI st
        rw [hst]
        rfl
      have hok := cp_stl_ok (lf := lf) (days := days) (s := s) hd.2 8 st hst
      have hm9 := ct_X4_windings l G (sz := (sz + 1)) hp9 hF7 (by omega) hv9 hok h5
      have hre : some (Value.int (if cp_fw (cx_ws WS run s) (ck_ct s 8) many days st < 63 then nI (cp_fw (cx_ws WS run s) (ck_ct s 8) many days st) else -1)) = some (.int (cx_plv NU WS run lf s days many 0)) := by rw [cx_plv_0 hst]
      refine hB bX10_plan_71 _ _ _ _ _ _ _ kX10_plan_71 ?_
      dsimp only [bX10_plan_71, kx_wp, kx_step, kx_lI, kx_lL, kx_lA, kx_gl, kx_pI, kx_pL, kx_pR, kx_pA, kx_pV, kx_s1, kx_s2, kx_sl, kx_pre, kx_c2, kx_pl, kx_cmp, kx_oF, kx_eqN, kx_nil, kx_c1, kx_ft, kx_aI, kx_aL, kx_aR, kx_ln, Nat.reduceAdd, Option.toList, List.cons_append, List.nil_append, cf10_13, cf10_6]
      repeat (simp only [h64, h64s, h81, ks_eq, ks_ss]; try dsimp only [kx_wp, kx_step, kx_lI, kx_lL, kx_lA, kx_gl, kx_pI, kx_pL, kx_pR, kx_pA, kx_pV, kx_s1, kx_s2, kx_sl, kx_pre, kx_c2, kx_pl, kx_cmp, kx_oF, kx_eqN, kx_nil, kx_c1, kx_ft, kx_aI, kx_aL, kx_aR, kx_ln, Nat.reduceAdd, Option.toList, List.cons_append, List.nil_append, cf10_13, cf10_6])
      repeat' apply And.intro
      all_goals try (first | with_reducible assumption | (with_reducible refine ck_nzI ?_; simp; done) | (with_reducible refine ck_nzL ?_; simp; done) | (with_reducible refine vp_in_nI ?_ ?_ <;> first | omega | decide) | (with_reducible refine Nat.le_of_ble_eq_true ?_; rfl) | omega | exact Or.inl trivial | exact Or.inr trivial | exact Or.inl rfl | exact Or.inr rfl)
      · intro zc73
        first | exact absurd rfl zc73 | exact absurd zc73 (by decide) | exact absurd (by decide) zc73 | (exfalso; first | exact absurd zc6 (by decide) | exact absurd ((nI_ltI (a := days) (b := 1) (by omega) (by omega)).mp zc11) (by omega) | exact absurd ((nI_ltI (a := 10) (b := days) (by omega) (by omega)).mp zc17) (by omega) | exact absurd zc40 (by decide) | exact absurd ((nI_ltI (a := wh + 1) (b := 0) (by omega) (by omega)).mp zc40) (by omega) | exact absurd ((nI_ltI (a := days) (b := wh + 1) (by omega) (by omega)).mp zc46) (by omega) | exact absurd ((nI_ltI (a := days) (b := 0) (by omega) (by omega)).mp zc46) (by omega) | exact zc73 rfl | exact absurd zc73 (by decide) | exact absurd ((nI_eq (a := wh + 1) (b := 0) (by omega) (by omega)).mp (Decidable.not_not.mp zc73)) (by omega) | exact zc30 hmn1 | exact absurd zc30 (by rw [hmn1]; decide) | exact absurd zc35 (by rw [hmn1]; decide) | exact absurd zc30 (by rw [hmn1]; decide) | exact zc35 (by rw [hmn1]; rfl) | exact absurd (by rw [hmn1]; rfl) zc35) | (exfalso; simp_all; done)
      · intro zc73
        with_reducible first | have ze73 := Decidable.not_not.mp zc73 | have ze73 := zc73
        refine hB bX10_plan_76 _ _ _ _ _ _ _ kX10_plan_76 ?_
        dsimp only [bX10_plan_76, kx_wp, kx_step, kx_lI, kx_lL, kx_lA, kx_gl, kx_pI, kx_pL, kx_pR, kx_pA, kx_pV, kx_s1, kx_s2, kx_sl, kx_pre, kx_c2, kx_pl, kx_cmp, kx_oF, kx_eqN, kx_nil, kx_c1, kx_ft, kx_aI, kx_aL, kx_aR, kx_ln, Nat.reduceAdd, Option.toList, List.cons_append, List.nil_append, cf10_13, cf10_6]
        repeat (simp only [h64, h64s, h81, ks_eq, ks_ss]; try dsimp only [kx_wp, kx_step, kx_lI, kx_lL, kx_lA, kx_gl, kx_pI, kx_pL, kx_pR, kx_pA, kx_pV, kx_s1, kx_s2, kx_sl, kx_pre, kx_c2, kx_pl, kx_cmp, kx_oF, kx_eqN, kx_nil, kx_c1, kx_ft, kx_aI, kx_aL, kx_aR, kx_ln, Nat.reduceAdd, Option.toList, List.cons_append, List.nil_append, cf10_13, cf10_6])
        repeat' apply And.intro
        all_goals try (first | with_reducible assumption | (with_reducible refine ck_nzI ?_; simp; done) | (with_reducible refine ck_nzL ?_; simp; done) | (with_reducible refine vp_in_nI ?_ ?_ <;> first | omega | decide) | (with_reducible refine Nat.le_of_ble_eq_true ?_; rfl) | omega | exact Or.inl trivial | exact Or.inr trivial | exact Or.inl rfl | exact Or.inr rfl)
        refine hN.1 283 _ _ _ _ _ _ _ 4 _ _ _ _ _ _ _ _ _ _ lX10_283 (hm9) ⟨by decide, rfl⟩ (jW_81) rfl rfl (Nat.le_of_ble_eq_true rfl) (by omega) (by decide) (by omega) (by omega) dX10_plan_80 ?_
        rintro r2 P2 s2 ⟨rfl, ⟨N2, rfl, hN2⟩, rfl⟩
        have hN9 : ∃ N3, kx_set (jW (kx_set P sz (kI 0 39973 (fun _ => 0))) (.ref sz) (cp_Fc Fp days many se lf s 8) (ck_pcl NU s 8) (cp_wsl WS run s 8)) sz (kI 0 39973 N2) = kx_set (jW (kx_set P sz (kI 0 39973 (fun _ => 0))) (.ref sz) (cp_Fc Fp days many se lf s 8) (ck_pcl NU s 8) (cp_wsl WS run s 8)) sz (kI 0 39973 N3) ∧ ∀ i, i < 39973 → ∃ e : Nat, N3 i = nI e ∧ e < 64 * (se + 2) := ⟨N2, rfl, hst9 _ hN2⟩
        dsimp only [Option.toList, List.cons_append, List.nil_append]
        refine hB bX10_plan_83 _ _ _ _ _ _ _ kX10_plan_83 ?_
        dsimp only [bX10_plan_83, kx_wp, kx_step, kx_lI, kx_lL, kx_lA, kx_gl, kx_pI, kx_pL, kx_pR, kx_pA, kx_pV, kx_s1, kx_s2, kx_sl, kx_pre, kx_c2, kx_pl, kx_cmp, kx_oF, kx_eqN, kx_nil, kx_c1, kx_ft, kx_aI, kx_aL, kx_aR, kx_ln, Nat.reduceAdd, Option.toList, List.cons_append, List.nil_append, cf10_13, cf10_6]
        repeat (simp only [h64, h64s, h81, ks_eq, ks_ss]; try dsimp only [kx_wp, kx_step, kx_lI, kx_lL, kx_lA, kx_gl, kx_pI, kx_pL, kx_pR, kx_pA, kx_pV, kx_s1, kx_s2, kx_sl, kx_pre, kx_c2, kx_pl, kx_cmp, kx_oF, kx_eqN, kx_nil, kx_c1, kx_ft, kx_aI, kx_aL, kx_aR, kx_ln, Nat.reduceAdd, Option.toList, List.cons_append, List.nil_append, cf10_13, cf10_6])
        repeat' apply And.intro
        all_goals try (first | with_reducible assumption | (with_reducible refine ck_nzI ?_; simp; done) | (with_reducible refine ck_nzL ?_; simp; done) | (with_reducible refine vp_in_nI ?_ ?_ <;> first | omega | decide) | (with_reducible refine Nat.le_of_ble_eq_true ?_; rfl) | omega | exact Or.inl trivial | exact Or.inr trivial | exact Or.inl rfl | exact Or.inr rfl)
        refine hB bX10_plan_97 _ _ _ _ _ _ _ kX10_plan_97 ?_
        dsimp only [bX10_plan_97, kx_wp, kx_step, kx_lI, kx_lL, kx_lA, kx_gl, kx_pI, kx_pL, kx_pR, kx_pA, kx_pV, kx_s1, kx_s2, kx_sl, kx_pre, kx_c2, kx_pl, kx_cmp, kx_oF, kx_eqN, kx_nil, kx_c1, kx_ft, kx_aI, kx_aL, kx_aR, kx_ln, Nat.reduceAdd, Option.toList, List.cons_append, List.nil_append, cf10_13, cf10_6]
        repeat (simp only [h64, h64s, h81, ks_eq, ks_ss]; try dsimp only [kx_wp, kx_step, kx_lI, kx_lL, kx_lA, kx_gl, kx_pI, kx_pL, kx_pR, kx_pA, kx_pV, kx_s1, kx_s2, kx_sl, kx_pre, kx_c2, kx_pl, kx_cmp, kx_oF, kx_eqN, kx_nil, kx_c1, kx_ft, kx_aI, kx_aL, kx_aR, kx_ln, Nat.reduceAdd, Option.toList, List.cons_append, List.nil_append, cf10_13, cf10_6])
        all_goals (repeat' apply And.intro)
        all_goals ((try clear hB hC); first | exact True.intro | rfl | exact hre | exact hN9)
  rcases hmn with hmn1 | hmn1
  · refine hB bX10_plan_0 _ _ _ _ _ _ _ kX10_plan_0 ?_
    dsimp only [bX10_plan_0, kx_wp, kx_step, kx_lI, kx_lL, kx_lA, kx_gl, kx_pI, kx_pL, kx_pR, kx_pA, kx_pV, kx_s1, kx_s2, kx_sl, kx_pre, kx_c2, kx_pl, kx_cmp, kx_oF, kx_eqN, kx_nil, kx_c1, kx_ft, kx_aI, kx_aL, kx_aR, kx_ln, Nat.reduceAdd, Option.toList, List.cons_append, List.nil_append, cf10_13, cf10_6]
    repeat (simp only [h64, h64s, h81, ks_eq, ks_ss]; try dsimp only [kx_wp, kx_step, kx_lI, kx_lL, kx_lA, kx_gl, kx_pI, kx_pL, kx_pR, kx_pA, kx_pV, kx_s1, kx_s2, kx_sl, kx_pre, kx_c2, kx_pl, kx_cmp, kx_oF, kx_eqN, kx_nil, kx_c1, kx_ft, kx_aI, kx_aL, kx_aR, kx_ln, Nat.reduceAdd, Option.toList, List.cons_append, List.nil_append, cf10_13, cf10_6])
    repeat' apply And.intro
    all_goals try (first | with_reducible assumption | (with_reducible refine ck_nzI ?_; simp; done) | (with_reducible refine ck_nzL ?_; simp; done) | (with_reducible refine vp_in_nI ?_ ?_ <;> first | omega | decide) | (with_reducible refine Nat.le_of_ble_eq_true ?_; rfl) | omega | exact Or.inl trivial | exact Or.inr trivial | exact Or.inl rfl | exact Or.inr rfl)
    refine hC.1 261 _ _ _ _ _ _ _ 10 _ _ _ _ _ _ _ _ _ _ _ _ lX10_261 (ct_X10_areClocks l G h64) ⟨by decide, rfl⟩ (h64) rfl rfl (Nat.le_of_ble_eq_true rfl) (by first | decide | omega) (by decide) (by omega) (by omega) dX10_plan_3 ?_
    rw [hac]
    refine hB bX10_plan_6 _ _ _ _ _ _ _ kX10_plan_6 ?_
    dsimp only [bX10_plan_6, kx_wp, kx_step, kx_lI, kx_lL, kx_lA, kx_gl, kx_pI, kx_pL, kx_pR, kx_pA, kx_pV, kx_s1, kx_s2, kx_sl, kx_pre, kx_c2, kx_pl, kx_cmp, kx_oF, kx_eqN, kx_nil, kx_c1, kx_ft, kx_aI, kx_aL, kx_aR, kx_ln, Nat.reduceAdd, Option.toList, List.cons_append, List.nil_append, cf10_13, cf10_6]
    repeat (simp only [h64, h64s, h81, ks_eq, ks_ss]; try dsimp only [kx_wp, kx_step, kx_lI, kx_lL, kx_lA, kx_gl, kx_pI, kx_pL, kx_pR, kx_pA, kx_pV, kx_s1, kx_s2, kx_sl, kx_pre, kx_c2, kx_pl, kx_cmp, kx_oF, kx_eqN, kx_nil, kx_c1, kx_ft, kx_aI, kx_aL, kx_aR, kx_ln, Nat.reduceAdd, Option.toList, List.cons_append, List.nil_append, cf10_13, cf10_6])
    repeat' apply And.intro
    all_goals try (first | with_reducible assumption | (with_reducible refine ck_nzI ?_; simp; done) | (with_reducible refine ck_nzL ?_; simp; done) | (with_reducible refine vp_in_nI ?_ ?_ <;> first | omega | decide) | (with_reducible refine Nat.le_of_ble_eq_true ?_; rfl) | omega | exact Or.inl trivial | exact Or.inr trivial | exact Or.inl rfl | exact Or.inr rfl)
    · intro zc6
      first | exact absurd rfl zc6 | exact absurd zc6 (by decide) | exact absurd (by decide) zc6 | (exfalso; first | exact absurd zc6 (by decide) | exact absurd ((nI_ltI (a := days) (b := 1) (by omega) (by omega)).mp zc11) (by omega) | exact absurd ((nI_ltI (a := 10) (b := days) (by omega) (by omega)).mp zc17) (by omega) | exact absurd zc40 (by decide) | exact absurd ((nI_ltI (a := wh + 1) (b := 0) (by omega) (by omega)).mp zc40) (by omega) | exact absurd ((nI_ltI (a := days) (b := wh + 1) (by omega) (by omega)).mp zc46) (by omega) | exact absurd ((nI_ltI (a := days) (b := 0) (by omega) (by omega)).mp zc46) (by omega) | exact zc73 rfl | exact absurd zc73 (by decide) | exact absurd ((nI_eq (a := wh + 1) (b := 0) (by omega) (by omega)).mp (Decidable.not_not.mp zc73)) (by omega) | exact zc30 hmn1 | exact absurd zc30 (by rw [hmn1]; decide) | exact absurd zc35 (by rw [hmn1]; decide) | exact absurd zc30 (by rw [hmn1]; decide) | exact zc35 (by rw [hmn1]; rfl) | exact absurd (by rw [hmn1]; rfl) zc35) | (exfalso; simp_all; done)
    · intro zc6
      have ze6 := zc6
      refine hB bX10_plan_9 _ _ _ _ _ _ _ kX10_plan_9 ?_
      dsimp only [bX10_plan_9, kx_wp, kx_step, kx_lI, kx_lL, kx_lA, kx_gl, kx_pI, kx_pL, kx_pR, kx_pA, kx_pV, kx_s1, kx_s2, kx_sl, kx_pre, kx_c2, kx_pl, kx_cmp, kx_oF, kx_eqN, kx_nil, kx_c1, kx_ft, kx_aI, kx_aL, kx_aR, kx_ln, Nat.reduceAdd, Option.toList, List.cons_append, List.nil_append, cf10_13, cf10_6]
      repeat (simp only [h64, h64s, h81, ks_eq, ks_ss]; try dsimp only [kx_wp, kx_step, kx_lI, kx_lL, kx_lA, kx_gl, kx_pI, kx_pL, kx_pR, kx_pA, kx_pV, kx_s1, kx_s2, kx_sl, kx_pre, kx_c2, kx_pl, kx_cmp, kx_oF, kx_eqN, kx_nil, kx_c1, kx_ft, kx_aI, kx_aL, kx_aR, kx_ln, Nat.reduceAdd, Option.toList, List.cons_append, List.nil_append, cf10_13, cf10_6])
      repeat' apply And.intro
      all_goals try (first | with_reducible assumption | (with_reducible refine ck_nzI ?_; simp; done) | (with_reducible refine ck_nzL ?_; simp; done) | (with_reducible refine vp_in_nI ?_ ?_ <;> first | omega | decide) | (with_reducible refine Nat.le_of_ble_eq_true ?_; rfl) | omega | exact Or.inl trivial | exact Or.inr trivial | exact Or.inl rfl | exact Or.inr rfl)
      · intro zc11
        first | exact absurd rfl zc11 | exact absurd zc11 (by decide) | exact absurd (by decide) zc11 | (exfalso; first | exact absurd zc6 (by decide) | exact absurd ((nI_ltI (a := days) (b := 1) (by omega) (by omega)).mp zc11) (by omega) | exact absurd ((nI_ltI (a := 10) (b := days) (by omega) (by omega)).mp zc17) (by omega) | exact absurd zc40 (by decide) | exact absurd ((nI_ltI (a := wh + 1) (b := 0) (by omega) (by omega)).mp zc40) (by omega) | exact absurd ((nI_ltI (a := days) (b := wh + 1) (by omega) (by omega)).mp zc46) (by omega) | exact absurd ((nI_ltI (a := days) (b := 0) (by omega) (by omega)).mp zc46) (by omega) | exact zc73 rfl | exact absurd zc73 (by decide) | exact absurd ((nI_eq (a := wh + 1) (b := 0) (by omega) (by omega)).mp (Decidable.not_not.mp zc73)) (by omega) | exact zc30 hmn1 | exact absurd zc30 (by rw [hmn1]; decide) | exact absurd zc35 (by rw [hmn1]; decide) | exact absurd zc30 (by rw [hmn1]; decide) | exact zc35 (by rw [hmn1]; rfl) | exact absurd (by rw [hmn1]; rfl) zc35) | (exfalso; simp_all; done)
      · intro zc11
        with_reducible first | have ze11 := Int32.not_lt.mp zc11 | have ze11 := zc11
        refine hB bX10_plan_14 _ _ _ _ _ _ _ kX10_plan_14 ?_
        dsimp only [bX10_plan_14, kx_wp, kx_step, kx_lI, kx_lL, kx_lA, kx_gl, kx_pI, kx_pL, kx_pR, kx_pA, kx_pV, kx_s1, kx_s2, kx_sl, kx_pre, kx_c2, kx_pl, kx_cmp, kx_oF, kx_eqN, kx_nil, kx_c1, kx_ft, kx_aI, kx_aL, kx_aR, kx_ln, Nat.reduceAdd, Option.toList, List.cons_append, List.nil_append, cf10_13, cf10_6]
        repeat (simp only [h64, h64s, h81, ks_eq, ks_ss]; try dsimp only [kx_wp, kx_step, kx_lI, kx_lL, kx_lA, kx_gl, kx_pI, kx_pL, kx_pR, kx_pA, kx_pV, kx_s1, kx_s2, kx_sl, kx_pre, kx_c2, kx_pl, kx_cmp, kx_oF, kx_eqN, kx_nil, kx_c1, kx_ft, kx_aI, kx_aL, kx_aR, kx_ln, Nat.reduceAdd, Option.toList, List.cons_append, List.nil_append, cf10_13, cf10_6])
        repeat' apply And.intro
        all_goals try (first | with_reducible assumption | (with_reducible refine ck_nzI ?_; simp; done) | (with_reducible refine ck_nzL ?_; simp; done) | (with_reducible refine vp_in_nI ?_ ?_ <;> first | omega | decide) | (with_reducible refine Nat.le_of_ble_eq_true ?_; rfl) | omega | exact Or.inl trivial | exact Or.inr trivial | exact Or.inl rfl | exact Or.inr rfl)
        · intro zc17
          first | exact absurd rfl zc17 | exact absurd zc17 (by decide) | exact absurd (by decide) zc17 | (exfalso; first | exact absurd zc6 (by decide) | exact absurd ((nI_ltI (a := days) (b := 1) (by omega) (by omega)).mp zc11) (by omega) | exact absurd ((nI_ltI (a := 10) (b := days) (by omega) (by omega)).mp zc17) (by omega) | exact absurd zc40 (by decide) | exact absurd ((nI_ltI (a := wh + 1) (b := 0) (by omega) (by omega)).mp zc40) (by omega) | exact absurd ((nI_ltI (a := days) (b := wh + 1) (by omega) (by omega)).mp zc46) (by omega) | exact absurd ((nI_ltI (a := days) (b := 0) (by omega) (by omega)).mp zc46) (by omega) | exact zc73 rfl | exact absurd zc73 (by decide) | exact absurd ((nI_eq (a := wh + 1) (b := 0) (by omega) (by omega)).mp (Decidable.not_not.mp zc73)) (by omega) | exact zc30 hmn1 | exact absurd zc30 (by rw [hmn1]; decide) | exact absurd zc35 (by rw [hmn1]; decide) | exact absurd zc30 (by rw [hmn1]; decide) | exact zc35 (by rw [hmn1]; rfl) | exact absurd (by rw [hmn1]; rfl) zc35) | (exfalso; simp_all; done)
        · intro zc17
          with_reducible first | have ze17 := Int32.not_lt.mp zc17 | have ze17 := zc17
          refine hB bX10_plan_20 _ _ _ _ _ _ _ kX10_plan_20 ?_
          dsimp only [bX10_plan_20, kx_wp, kx_step, kx_lI, kx_lL, kx_lA, kx_gl, kx_pI, kx_pL, kx_pR, kx_pA, kx_pV, kx_s1, kx_s2, kx_sl, kx_pre, kx_c2, kx_pl, kx_cmp, kx_oF, kx_eqN, kx_nil, kx_c1, kx_ft, kx_aI, kx_aL, kx_aR, kx_ln, Nat.reduceAdd, Option.toList, List.cons_append, List.nil_append, cf10_13, cf10_6]
          repeat (simp only [h64, h64s, h81, ks_eq, ks_ss]; try dsimp only [kx_wp, kx_step, kx_lI, kx_lL, kx_lA, kx_gl, kx_pI, kx_pL, kx_pR, kx_pA, kx_pV, kx_s1, kx_s2, kx_sl, kx_pre, kx_c2, kx_pl, kx_cmp, kx_oF, kx_eqN, kx_nil, kx_c1, kx_ft, kx_aI, kx_aL, kx_aR, kx_ln, Nat.reduceAdd, Option.toList, List.cons_append, List.nil_append, cf10_13, cf10_6])
          repeat' apply And.intro
          all_goals try (first | with_reducible assumption | (with_reducible refine ck_nzI ?_; simp; done) | (with_reducible refine ck_nzL ?_; simp; done) | (with_reducible refine vp_in_nI ?_ ?_ <;> first | omega | decide) | (with_reducible refine Nat.le_of_ble_eq_true ?_; rfl) | omega | exact Or.inl trivial | exact Or.inr trivial | exact Or.inl rfl | exact Or.inr rfl)
          refine hC.2.1 95 _ _ _ _ _ _ _ _ _ _ _ _ _ _ _ _ _ lX10_95 (ct_X10_need l G (b := 1) (by decide)) rfl rfl (Nat.le_of_ble_eq_true rfl) (by first | decide | omega) (by decide) (by omega) (by omega) dX10_plan_25 ?_
          refine hB bX10_plan_28 _ _ _ _ _ _ _ kX10_plan_28 ?_
          dsimp only [bX10_plan_28, kx_wp, kx_step, kx_lI, kx_lL, kx_lA, kx_gl, kx_pI, kx_pL, kx_pR, kx_pA, kx_pV, kx_s1, kx_s2, kx_sl, kx_pre, kx_c2, kx_pl, kx_cmp, kx_oF, kx_eqN, kx_nil, kx_c1, kx_ft, kx_aI, kx_aL, kx_aR, kx_ln, Nat.reduceAdd, Option.toList, List.cons_append, List.nil_append, cf10_13, cf10_6]
          repeat (simp only [h64, h64s, h81, ks_eq, ks_ss]; try dsimp only [kx_wp, kx_step, kx_lI, kx_lL, kx_lA, kx_gl, kx_pI, kx_pL, kx_pR, kx_pA, kx_pV, kx_s1, kx_s2, kx_sl, kx_pre, kx_c2, kx_pl, kx_cmp, kx_oF, kx_eqN, kx_nil, kx_c1, kx_ft, kx_aI, kx_aL, kx_aR, kx_ln, Nat.reduceAdd, Option.toList, List.cons_append, List.nil_append, cf10_13, cf10_6])
          repeat' apply And.intro
          all_goals try (first | with_reducible assumption | (with_reducible refine ck_nzI ?_; simp; done) | (with_reducible refine ck_nzL ?_; simp; done) | (with_reducible refine vp_in_nI ?_ ?_ <;> first | omega | decide) | (with_reducible refine Nat.le_of_ble_eq_true ?_; rfl) | omega | exact Or.inl trivial | exact Or.inr trivial | exact Or.inl rfl | exact Or.inr rfl)
          · intro zc30
            have ze30 := zc30
            refine hB bX10_plan_38 _ _ _ _ _ _ _ kX10_plan_38 ?_
            dsimp only [bX10_plan_38, kx_wp, kx_step, kx_lI, kx_lL, kx_lA, kx_gl, kx_pI, kx_pL, kx_pR, kx_pA, kx_pV, kx_s1, kx_s2, kx_sl, kx_pre, kx_c2, kx_pl, kx_cmp, kx_oF, kx_eqN, kx_nil, kx_c1, kx_ft, kx_aI, kx_aL, kx_aR, kx_ln, Nat.reduceAdd, Option.toList, List.cons_append, List.nil_append, cf10_13, cf10_6]
            repeat (simp only [h64, h64s, h81, ks_eq, ks_ss]; try dsimp only [kx_wp, kx_step, kx_lI, kx_lL, kx_lA, kx_gl, kx_pI, kx_pL, kx_pR, kx_pA, kx_pV, kx_s1, kx_s2, kx_sl, kx_pre, kx_c2, kx_pl, kx_cmp, kx_oF, kx_eqN, kx_nil, kx_c1, kx_ft, kx_aI, kx_aL, kx_aR, kx_ln, Nat.reduceAdd, Option.toList, List.cons_append, List.nil_append, cf10_13, cf10_6])
            repeat' apply And.intro
            all_goals try (first | with_reducible assumption | (with_reducible refine ck_nzI ?_; simp; done) | (with_reducible refine ck_nzL ?_; simp; done) | (with_reducible refine vp_in_nI ?_ ?_ <;> first | omega | decide) | (with_reducible refine Nat.le_of_ble_eq_true ?_; rfl) | omega | exact Or.inl trivial | exact Or.inr trivial | exact Or.inl rfl | exact Or.inr rfl)
            · intro zc40
              first | exact absurd rfl zc40 | exact absurd zc40 (by decide) | exact absurd (by decide) zc40 | (exfalso; first | exact absurd zc6 (by decide) | exact absurd ((nI_ltI (a := days) (b := 1) (by omega) (by omega)).mp zc11) (by omega) | exact absurd ((nI_ltI (a := 10) (b := days) (by omega) (by omega)).mp zc17) (by omega) | exact absurd zc40 (by decide) | exact absurd ((nI_ltI (a := wh + 1) (b := 0) (by omega) (by omega)).mp zc40) (by omega) | exact absurd ((nI_ltI (a := days) (b := wh + 1) (by omega) (by omega)).mp zc46) (by omega) | exact absurd ((nI_ltI (a := days) (b := 0) (by omega) (by omega)).mp zc46) (by omega) | exact zc73 rfl | exact absurd zc73 (by decide) | exact absurd ((nI_eq (a := wh + 1) (b := 0) (by omega) (by omega)).mp (Decidable.not_not.mp zc73)) (by omega) | exact zc30 hmn1 | exact absurd zc30 (by rw [hmn1]; decide) | exact absurd zc35 (by rw [hmn1]; decide) | exact absurd zc30 (by rw [hmn1]; decide) | exact zc35 (by rw [hmn1]; rfl) | exact absurd (by rw [hmn1]; rfl) zc35) | (exfalso; simp_all; done)
            · intro zc40
              with_reducible first | have ze40 := Int32.not_lt.mp zc40 | have ze40 := zc40
              refine hB bX10_plan_43 _ _ _ _ _ _ _ kX10_plan_43 ?_
              dsimp only [bX10_plan_43, kx_wp, kx_step, kx_lI, kx_lL, kx_lA, kx_gl, kx_pI, kx_pL, kx_pR, kx_pA, kx_pV, kx_s1, kx_s2, kx_sl, kx_pre, kx_c2, kx_pl, kx_cmp, kx_oF, kx_eqN, kx_nil, kx_c1, kx_ft, kx_aI, kx_aL, kx_aR, kx_ln, Nat.reduceAdd, Option.toList, List.cons_append, List.nil_append, cf10_13, cf10_6]
              repeat (simp only [h64, h64s, h81, ks_eq, ks_ss]; try dsimp only [kx_wp, kx_step, kx_lI, kx_lL, kx_lA, kx_gl, kx_pI, kx_pL, kx_pR, kx_pA, kx_pV, kx_s1, kx_s2, kx_sl, kx_pre, kx_c2, kx_pl, kx_cmp, kx_oF, kx_eqN, kx_nil, kx_c1, kx_ft, kx_aI, kx_aL, kx_aR, kx_ln, Nat.reduceAdd, Option.toList, List.cons_append, List.nil_append, cf10_13, cf10_6])
              repeat' apply And.intro
              all_goals try (first | with_reducible assumption | (with_reducible refine ck_nzI ?_; simp; done) | (with_reducible refine ck_nzL ?_; simp; done) | (with_reducible refine vp_in_nI ?_ ?_ <;> first | omega | decide) | (with_reducible refine Nat.le_of_ble_eq_true ?_; rfl) | omega | exact Or.inl trivial | exact Or.inr trivial | exact Or.inl rfl | exact Or.inr rfl)
              · intro zc46
                first | exact absurd rfl zc46 | exact absurd zc46 (by decide) | exact absurd (by decide) zc46 | (exfalso; first | exact absurd zc6 (by decide) | exact absurd ((nI_ltI (a := days) (b := 1) (by omega) (by omega)).mp zc11) (by omega) | exact absurd ((nI_ltI (a := 10) (b := days) (by omega) (by omega)).mp zc17) (by omega) | exact absurd zc40 (by decide) | exact absurd ((nI_ltI (a := wh + 1) (b := 0) (by omega) (by omega)).mp zc40) (by omega) | exact absurd ((nI_ltI (a := days) (b := wh + 1) (by omega) (by omega)).mp zc46) (by omega) | exact absurd ((nI_ltI (a := days) (b := 0) (by omega) (by omega)).mp zc46) (by omega) | exact zc73 rfl | exact absurd zc73 (by decide) | exact absurd ((nI_eq (a := wh + 1) (b := 0) (by omega) (by omega)).mp (Decidable.not_not.mp zc73)) (by omega) | exact zc30 hmn1 | exact absurd zc30 (by rw [hmn1]; decide) | exact absurd zc35 (by rw [hmn1]; decide) | exact absurd zc30 (by rw [hmn1]; decide) | exact zc35 (by rw [hmn1]; rfl) | exact absurd (by rw [hmn1]; rfl) zc35) | (exfalso; simp_all; done)
              · intro zc46
                with_reducible first | have ze46 := Int32.not_lt.mp zc46 | have ze46 := zc46
                refine hB bX10_plan_49 _ _ _ _ _ _ _ kX10_plan_49 ?_
                dsimp only [bX10_plan_49, kx_wp, kx_step, kx_lI, kx_lL, kx_lA, kx_gl, kx_pI, kx_pL, kx_pR, kx_pA, kx_pV, kx_s1, kx_s2, kx_sl, kx_pre, kx_c2, kx_pl, kx_cmp, kx_oF, kx_eqN, kx_nil, kx_c1, kx_ft, kx_aI, kx_aL, kx_aR, kx_ln, Nat.reduceAdd, Option.toList, List.cons_append, List.nil_append, cf10_13, cf10_6]
                repeat (simp only [h64, h64s, h81, ks_eq, ks_ss]; try dsimp only [kx_wp, kx_step, kx_lI, kx_lL, kx_lA, kx_gl, kx_pI, kx_pL, kx_pR, kx_pA, kx_pV, kx_s1, kx_s2, kx_sl, kx_pre, kx_c2, kx_pl, kx_cmp, kx_oF, kx_eqN, kx_nil, kx_c1, kx_ft, kx_aI, kx_aL, kx_aR, kx_ln, Nat.reduceAdd, Option.toList, List.cons_append, List.nil_append, cf10_13, cf10_6])
                repeat' apply And.intro
                all_goals try (first | with_reducible assumption | (with_reducible refine ck_nzI ?_; simp; done) | (with_reducible refine ck_nzL ?_; simp; done) | (with_reducible refine vp_in_nI ?_ ?_ <;> first | omega | decide) | (with_reducible refine Nat.le_of_ble_eq_true ?_; rfl) | omega | exact Or.inl trivial | exact Or.inr trivial | exact Or.inl rfl | exact Or.inr rfl)
                refine hC.2.1 95 _ _ _ _ _ _ _ _ _ _ _ _ _ _ _ _ _ lX10_95 (ct_X10_need l G (b := 1) (by decide)) rfl rfl (Nat.le_of_ble_eq_true rfl) (by first | decide | omega) (by decide) (by omega) (by omega) dX10_plan_54 ?_
                refine hB bX10_plan_57 _ _ _ _ _ _ _ kX10_plan_57 ?_
                dsimp only [bX10_plan_57, kx_wp, kx_step, kx_lI, kx_lL, kx_lA, kx_gl, kx_pI, kx_pL, kx_pR, kx_pA, kx_pV, kx_s1, kx_s2, kx_sl, kx_pre, kx_c2, kx_pl, kx_cmp, kx_oF, kx_eqN, kx_nil, kx_c1, kx_ft, kx_aI, kx_aL, kx_aR, kx_ln, Nat.reduceAdd, Option.toList, List.cons_append, List.nil_append, cf10_13, cf10_6]
                repeat (simp only [h64, h64s, h81, ks_eq, ks_ss]; try dsimp only [kx_wp, kx_step, kx_lI, kx_lL, kx_lA, kx_gl, kx_pI, kx_pL, kx_pR, kx_pA, kx_pV, kx_s1, kx_s2, kx_sl, kx_pre, kx_c2, kx_pl, kx_cmp, kx_oF, kx_eqN, kx_nil, kx_c1, kx_ft, kx_aI, kx_aL, kx_aR, kx_ln, Nat.reduceAdd, Option.toList, List.cons_append, List.nil_append, cf10_13, cf10_6])
                repeat' apply And.intro
                all_goals try (first | with_reducible assumption | (with_reducible refine ck_nzI ?_; simp; done) | (with_reducible refine ck_nzL ?_; simp; done) | (with_reducible refine vp_in_nI ?_ ?_ <;> first | omega | decide) | (with_reducible refine Nat.le_of_ble_eq_true ?_; rfl) | omega | exact Or.inl trivial | exact Or.inr trivial | exact Or.inl rfl | exact Or.inr rfl)
                refine hC.1 281 _ _ _ _ _ _ _ 4 _ _ _ _ _ _ _ _ _ _ _ _ lX10_281 (hb9) ⟨by decide, rfl⟩ (h81) rfl rfl (Nat.le_of_ble_eq_true rfl) (by first | decide | omega) (by decide) (by omega) (by omega) dX10_plan_68 ?_
                exact h71
          · intro zc30
            first | exact absurd rfl zc30 | exact absurd zc30 (by decide) | exact absurd (by decide) zc30 | (exfalso; first | exact absurd zc6 (by decide) | exact absurd ((nI_ltI (a := days) (b := 1) (by omega) (by omega)).mp zc11) (by omega) | exact absurd ((nI_ltI (a := 10) (b := days) (by omega) (by omega)).mp zc17) (by omega) | exact absurd zc40 (by decide) | exact absurd ((nI_ltI (a := wh + 1) (b := 0) (by omega) (by omega)).mp zc40) (by omega) | exact absurd ((nI_ltI (a := days) (b := wh + 1) (by omega) (by omega)).mp zc46) (by omega) | exact absurd ((nI_ltI (a := days) (b := 0) (by omega) (by omega)).mp zc46) (by omega) | exact zc73 rfl | exact absurd zc73 (by decide) | exact absurd ((nI_eq (a := wh + 1) (b := 0) (by omega) (by omega)).mp (Decidable.not_not.mp zc73)) (by omega) | exact zc30 hmn1 | exact absurd zc30 (by rw [hmn1]; decide) | exact absurd zc35 (by rw [hmn1]; decide) | exact absurd zc30 (by rw [hmn1]; decide) | exact zc35 (by rw [hmn1]; rfl) | exact absurd (by rw [hmn1]; rfl) zc35) | (exfalso; simp_all; done)
  · refine hB bX10_plan_0 _ _ _ _ _ _ _ kX10_plan_0 ?_
    dsimp only [bX10_plan_0, kx_wp, kx_step, kx_lI, kx_lL, kx_lA, kx_gl, kx_pI, kx_pL, kx_pR, kx_pA, kx_pV, kx_s1, kx_s2, kx_sl, kx_pre, kx_c2, kx_pl, kx_cmp, kx_oF, kx_eqN, kx_nil, kx_c1, kx_ft, kx_aI, kx_aL, kx_aR, kx_ln, Nat.reduceAdd, Option.toList, List.cons_append, List.nil_append, cf10_13, cf10_6]
    repeat (simp only [h64, h64s, h81, ks_eq, ks_ss]; try dsimp only [kx_wp, kx_step, kx_lI, kx_lL, kx_lA, kx_gl, kx_pI, kx_pL, kx_pR, kx_pA, kx_pV, kx_s1, kx_s2, kx_sl, kx_pre, kx_c2, kx_pl, kx_cmp, kx_oF, kx_eqN, kx_nil, kx_c1, kx_ft, kx_aI, kx_aL, kx_aR, kx_ln, Nat.reduceAdd, Option.toList, List.cons_append, List.nil_append, cf10_13, cf10_6])
    repeat' apply And.intro
    all_goals try (first | with_reducible assumption | (with_reducible refine ck_nzI ?_; simp; done) | (with_reducible refine ck_nzL ?_; simp; done) | (with_reducible refine vp_in_nI ?_ ?_ <;> first | omega | decide) | (with_reducible refine Nat.le_of_ble_eq_true ?_; rfl) | omega | exact Or.inl trivial | exact Or.inr trivial | exact Or.inl rfl | exact Or.inr rfl)
    refine hC.1 261 _ _ _ _ _ _ _ 10 _ _ _ _ _ _ _ _ _ _ _ _ lX10_261 (ct_X10_areClocks l G h64) ⟨by decide, rfl⟩ (h64) rfl rfl (Nat.le_of_ble_eq_true rfl) (by first | decide | omega) (by decide) (by omega) (by omega) dX10_plan_3 ?_
    rw [hac]
    refine hB bX10_plan_6 _ _ _ _ _ _ _ kX10_plan_6 ?_
    dsimp only [bX10_plan_6, kx_wp, kx_step, kx_lI, kx_lL, kx_lA, kx_gl, kx_pI, kx_pL, kx_pR, kx_pA, kx_pV, kx_s1, kx_s2, kx_sl, kx_pre, kx_c2, kx_pl, kx_cmp, kx_oF, kx_eqN, kx_nil, kx_c1, kx_ft, kx_aI, kx_aL, kx_aR, kx_ln, Nat.reduceAdd, Option.toList, List.cons_append, List.nil_append, cf10_13, cf10_6]
    repeat (simp only [h64, h64s, h81, ks_eq, ks_ss]; try dsimp only [kx_wp, kx_step, kx_lI, kx_lL, kx_lA, kx_gl, kx_pI, kx_pL, kx_pR, kx_pA, kx_pV, kx_s1, kx_s2, kx_sl, kx_pre, kx_c2, kx_pl, kx_cmp, kx_oF, kx_eqN, kx_nil, kx_c1, kx_ft, kx_aI, kx_aL, kx_aR, kx_ln, Nat.reduceAdd, Option.toList, List.cons_append, List.nil_append, cf10_13, cf10_6])
    repeat' apply And.intro
    all_goals try (first | with_reducible assumption | (with_reducible refine ck_nzI ?_; simp; done) | (with_reducible refine ck_nzL ?_; simp; done) | (with_reducible refine vp_in_nI ?_ ?_ <;> first | omega | decide) | (with_reducible refine Nat.le_of_ble_eq_true ?_; rfl) | omega | exact Or.inl trivial | exact Or.inr trivial | exact Or.inl rfl | exact Or.inr rfl)
    · intro zc6
      first | exact absurd rfl zc6 | exact absurd zc6 (by decide) | exact absurd (by decide) zc6 | (exfalso; first | exact absurd zc6 (by decide) | exact absurd ((nI_ltI (a := days) (b := 1) (by omega) (by omega)).mp zc11) (by omega) | exact absurd ((nI_ltI (a := 10) (b := days) (by omega) (by omega)).mp zc17) (by omega) | exact absurd zc40 (by decide) | exact absurd ((nI_ltI (a := wh + 1) (b := 0) (by omega) (by omega)).mp zc40) (by omega) | exact absurd ((nI_ltI (a := days) (b := wh + 1) (by omega) (by omega)).mp zc46) (by omega) | exact absurd ((nI_ltI (a := days) (b := 0) (by omega) (by omega)).mp zc46) (by omega) | exact zc73 rfl | exact absurd zc73 (by decide) | exact absurd ((nI_eq (a := wh + 1) (b := 0) (by omega) (by omega)).mp (Decidable.not_not.mp zc73)) (by omega) | exact zc30 hmn1 | exact absurd zc30 (by rw [hmn1]; decide) | exact absurd zc35 (by rw [hmn1]; decide) | exact absurd zc30 (by rw [hmn1]; decide) | exact zc35 (by rw [hmn1]; rfl) | exact absurd (by rw [hmn1]; rfl) zc35) | (exfalso; simp_all; done)
    · intro zc6
      have ze6 := zc6
      refine hB bX10_plan_9 _ _ _ _ _ _ _ kX10_plan_9 ?_
      dsimp only [bX10_plan_9, kx_wp, kx_step, kx_lI, kx_lL, kx_lA, kx_gl, kx_pI, kx_pL, kx_pR, kx_pA, kx_pV, kx_s1, kx_s2, kx_sl, kx_pre, kx_c2, kx_pl, kx_cmp, kx_oF, kx_eqN, kx_nil, kx_c1, kx_ft, kx_aI, kx_aL, kx_aR, kx_ln, Nat.reduceAdd, Option.toList, List.cons_append, List.nil_append, cf10_13, cf10_6]
      repeat (simp only [h64, h64s, h81, ks_eq, ks_ss]; try dsimp only [kx_wp, kx_step, kx_lI, kx_lL, kx_lA, kx_gl, kx_pI, kx_pL, kx_pR, kx_pA, kx_pV, kx_s1, kx_s2, kx_sl, kx_pre, kx_c2, kx_pl, kx_cmp, kx_oF, kx_eqN, kx_nil, kx_c1, kx_ft, kx_aI, kx_aL, kx_aR, kx_ln, Nat.reduceAdd, Option.toList, List.cons_append, List.nil_append, cf10_13, cf10_6])
      repeat' apply And.intro
      all_goals try (first | with_reducible assumption | (with_reducible refine ck_nzI ?_; simp; done) | (with_reducible refine ck_nzL ?_; simp; done) | (with_reducible refine vp_in_nI ?_ ?_ <;> first | omega | decide) | (with_reducible refine Nat.le_of_ble_eq_true ?_; rfl) | omega | exact Or.inl trivial | exact Or.inr trivial | exact Or.inl rfl | exact Or.inr rfl)
      · intro zc11
        first | exact absurd rfl zc11 | exact absurd zc11 (by decide) | exact absurd (by decide) zc11 | (exfalso; first | exact absurd zc6 (by decide) | exact absurd ((nI_ltI (a := days) (b := 1) (by omega) (by omega)).mp zc11) (by omega) | exact absurd ((nI_ltI (a := 10) (b := days) (by omega) (by omega)).mp zc17) (by omega) | exact absurd zc40 (by decide) | exact absurd ((nI_ltI (a := wh + 1) (b := 0) (by omega) (by omega)).mp zc40) (by omega) | exact absurd ((nI_ltI (a := days) (b := wh + 1) (by omega) (by omega)).mp zc46) (by omega) | exact absurd ((nI_ltI (a := days) (b := 0) (by omega) (by omega)).mp zc46) (by omega) | exact zc73 rfl | exact absurd zc73 (by decide) | exact absurd ((nI_eq (a := wh + 1) (b := 0) (by omega) (by omega)).mp (Decidable.not_not.mp zc73)) (by omega) | exact zc30 hmn1 | exact absurd zc30 (by rw [hmn1]; decide) | exact absurd zc35 (by rw [hmn1]; decide) | exact absurd zc30 (by rw [hmn1]; decide) | exact zc35 (by rw [hmn1]; rfl) | exact absurd (by rw [hmn1]; rfl) zc35) | (exfalso; simp_all; done)
      · intro zc11
        with_reducible first | have ze11 := Int32.not_lt.mp zc11 | have ze11 := zc11
        refine hB bX10_plan_14 _ _ _ _ _ _ _ kX10_plan_14 ?_
        dsimp only [bX10_plan_14, kx_wp, kx_step, kx_lI, kx_lL, kx_lA, kx_gl, kx_pI, kx_pL, kx_pR, kx_pA, kx_pV, kx_s1, kx_s2, kx_sl, kx_pre, kx_c2, kx_pl, kx_cmp, kx_oF, kx_eqN, kx_nil, kx_c1, kx_ft, kx_aI, kx_aL, kx_aR, kx_ln, Nat.reduceAdd, Option.toList, List.cons_append, List.nil_append, cf10_13, cf10_6]
        repeat (simp only [h64, h64s, h81, ks_eq, ks_ss]; try dsimp only [kx_wp, kx_step, kx_lI, kx_lL, kx_lA, kx_gl, kx_pI, kx_pL, kx_pR, kx_pA, kx_pV, kx_s1, kx_s2, kx_sl, kx_pre, kx_c2, kx_pl, kx_cmp, kx_oF, kx_eqN, kx_nil, kx_c1, kx_ft, kx_aI, kx_aL, kx_aR, kx_ln, Nat.reduceAdd, Option.toList, List.cons_append, List.nil_append, cf10_13, cf10_6])
        repeat' apply And.intro
        all_goals try (first | with_reducible assumption | (with_reducible refine ck_nzI ?_; simp; done) | (with_reducible refine ck_nzL ?_; simp; done) | (with_reducible refine vp_in_nI ?_ ?_ <;> first | omega | decide) | (with_reducible refine Nat.le_of_ble_eq_true ?_; rfl) | omega | exact Or.inl trivial | exact Or.inr trivial | exact Or.inl rfl | exact Or.inr rfl)
        · intro zc17
          first | exact absurd rfl zc17 | exact absurd zc17 (by decide) | exact absurd (by decide) zc17 | (exfalso; first | exact absurd zc6 (by decide) | exact absurd ((nI_ltI (a := days) (b := 1) (by omega) (by omega)).mp zc11) (by omega) | exact absurd ((nI_ltI (a := 10) (b := days) (by omega) (by omega)).mp zc17) (by omega) | exact absurd zc40 (by decide) | exact absurd ((nI_ltI (a := wh + 1) (b := 0) (by omega) (by omega)).mp zc40) (by omega) | exact absurd ((nI_ltI (a := days) (b := wh + 1) (by omega) (by omega)).mp zc46) (by omega) | exact absurd ((nI_ltI (a := days) (b := 0) (by omega) (by omega)).mp zc46) (by omega) | exact zc73 rfl | exact absurd zc73 (by decide) | exact absurd ((nI_eq (a := wh + 1) (b := 0) (by omega) (by omega)).mp (Decidable.not_not.mp zc73)) (by omega) | exact zc30 hmn1 | exact absurd zc30 (by rw [hmn1]; decide) | exact absurd zc35 (by rw [hmn1]; decide) | exact absurd zc30 (by rw [hmn1]; decide) | exact zc35 (by rw [hmn1]; rfl) | exact absurd (by rw [hmn1]; rfl) zc35) | (exfalso; simp_all; done)
        · intro zc17
          with_reducible first | have ze17 := Int32.not_lt.mp zc17 | have ze17 := zc17
          refine hB bX10_plan_20 _ _ _ _ _ _ _ kX10_plan_20 ?_
          dsimp only [bX10_plan_20, kx_wp, kx_step, kx_lI, kx_lL, kx_lA, kx_gl, kx_pI, kx_pL, kx_pR, kx_pA, kx_pV, kx_s1, kx_s2, kx_sl, kx_pre, kx_c2, kx_pl, kx_cmp, kx_oF, kx_eqN, kx_nil, kx_c1, kx_ft, kx_aI, kx_aL, kx_aR, kx_ln, Nat.reduceAdd, Option.toList, List.cons_append, List.nil_append, cf10_13, cf10_6]
          repeat (simp only [h64, h64s, h81, ks_eq, ks_ss]; try dsimp only [kx_wp, kx_step, kx_lI, kx_lL, kx_lA, kx_gl, kx_pI, kx_pL, kx_pR, kx_pA, kx_pV, kx_s1, kx_s2, kx_sl, kx_pre, kx_c2, kx_pl, kx_cmp, kx_oF, kx_eqN, kx_nil, kx_c1, kx_ft, kx_aI, kx_aL, kx_aR, kx_ln, Nat.reduceAdd, Option.toList, List.cons_append, List.nil_append, cf10_13, cf10_6])
          repeat' apply And.intro
          all_goals try (first | with_reducible assumption | (with_reducible refine ck_nzI ?_; simp; done) | (with_reducible refine ck_nzL ?_; simp; done) | (with_reducible refine vp_in_nI ?_ ?_ <;> first | omega | decide) | (with_reducible refine Nat.le_of_ble_eq_true ?_; rfl) | omega | exact Or.inl trivial | exact Or.inr trivial | exact Or.inl rfl | exact Or.inr rfl)
          refine hC.2.1 95 _ _ _ _ _ _ _ _ _ _ _ _ _ _ _ _ _ lX10_95 (ct_X10_need l G (b := 1) (by decide)) rfl rfl (Nat.le_of_ble_eq_true rfl) (by first | decide | omega) (by decide) (by omega) (by omega) dX10_plan_25 ?_
          refine hB bX10_plan_28 _ _ _ _ _ _ _ kX10_plan_28 ?_
          dsimp only [bX10_plan_28, kx_wp, kx_step, kx_lI, kx_lL, kx_lA, kx_gl, kx_pI, kx_pL, kx_pR, kx_pA, kx_pV, kx_s1, kx_s2, kx_sl, kx_pre, kx_c2, kx_pl, kx_cmp, kx_oF, kx_eqN, kx_nil, kx_c1, kx_ft, kx_aI, kx_aL, kx_aR, kx_ln, Nat.reduceAdd, Option.toList, List.cons_append, List.nil_append, cf10_13, cf10_6]
          repeat (simp only [h64, h64s, h81, ks_eq, ks_ss]; try dsimp only [kx_wp, kx_step, kx_lI, kx_lL, kx_lA, kx_gl, kx_pI, kx_pL, kx_pR, kx_pA, kx_pV, kx_s1, kx_s2, kx_sl, kx_pre, kx_c2, kx_pl, kx_cmp, kx_oF, kx_eqN, kx_nil, kx_c1, kx_ft, kx_aI, kx_aL, kx_aR, kx_ln, Nat.reduceAdd, Option.toList, List.cons_append, List.nil_append, cf10_13, cf10_6])
          repeat' apply And.intro
          all_goals try (first | with_reducible assumption | (with_reducible refine ck_nzI ?_; simp; done) | (with_reducible refine ck_nzL ?_; simp; done) | (with_reducible refine vp_in_nI ?_ ?_ <;> first | omega | decide) | (with_reducible refine Nat.le_of_ble_eq_true ?_; rfl) | omega | exact Or.inl trivial | exact Or.inr trivial | exact Or.inl rfl | exact Or.inr rfl)
          · intro zc30
            first | exact absurd rfl zc30 | exact absurd zc30 (by decide) | exact absurd (by decide) zc30 | (exfalso; first | exact absurd zc6 (by decide) | exact absurd ((nI_ltI (a := days) (b := 1) (by omega) (by omega)).mp zc11) (by omega) | exact absurd ((nI_ltI (a := 10) (b := days) (by omega) (by omega)).mp zc17) (by omega) | exact absurd zc40 (by decide) | exact absurd ((nI_ltI (a := wh + 1) (b := 0) (by omega) (by omega)).mp zc40) (by omega) | exact absurd ((nI_ltI (a := days) (b := wh + 1) (by omega) (by omega)).mp zc46) (by omega) | exact absurd ((nI_ltI (a := days) (b := 0) (by omega) (by omega)).mp zc46) (by omega) | exact zc73 rfl | exact absurd zc73 (by decide) | exact absurd ((nI_eq (a := wh + 1) (b := 0) (by omega) (by omega)).mp (Decidable.not_not.mp zc73)) (by omega) | exact zc30 hmn1 | exact absurd zc30 (by rw [hmn1]; decide) | exact absurd zc35 (by rw [hmn1]; decide) | exact absurd zc30 (by rw [hmn1]; decide) | exact zc35 (by rw [hmn1]; rfl) | exact absurd (by rw [hmn1]; rfl) zc35) | (exfalso; simp_all; done)
          · intro zc30
            have ze30 := zc30
            refine hB bX10_plan_33 _ _ _ _ _ _ _ kX10_plan_33 ?_
            dsimp only [bX10_plan_33, kx_wp, kx_step, kx_lI, kx_lL, kx_lA, kx_gl, kx_pI, kx_pL, kx_pR, kx_pA, kx_pV, kx_s1, kx_s2, kx_sl, kx_pre, kx_c2, kx_pl, kx_cmp, kx_oF, kx_eqN, kx_nil, kx_c1, kx_ft, kx_aI, kx_aL, kx_aR, kx_ln, Nat.reduceAdd, Option.toList, List.cons_append, List.nil_append, cf10_13, cf10_6]
            repeat (simp only [h64, h64s, h81, ks_eq, ks_ss]; try dsimp only [kx_wp, kx_step, kx_lI, kx_lL, kx_lA, kx_gl, kx_pI, kx_pL, kx_pR, kx_pA, kx_pV, kx_s1, kx_s2, kx_sl, kx_pre, kx_c2, kx_pl, kx_cmp, kx_oF, kx_eqN, kx_nil, kx_c1, kx_ft, kx_aI, kx_aL, kx_aR, kx_ln, Nat.reduceAdd, Option.toList, List.cons_append, List.nil_append, cf10_13, cf10_6])
            repeat' apply And.intro
            all_goals try (first | with_reducible assumption | (with_reducible refine ck_nzI ?_; simp; done) | (with_reducible refine ck_nzL ?_; simp; done) | (with_reducible refine vp_in_nI ?_ ?_ <;> first | omega | decide) | (with_reducible refine Nat.le_of_ble_eq_true ?_; rfl) | omega | exact Or.inl trivial | exact Or.inr trivial | exact Or.inl rfl | exact Or.inr rfl)
            · intro zc35
              first | exact absurd rfl zc35 | exact absurd zc35 (by decide) | exact absurd (by decide) zc35 | (exfalso; first | exact absurd zc6 (by decide) | exact absurd ((nI_ltI (a := days) (b := 1) (by omega) (by omega)).mp zc11) (by omega) | exact absurd ((nI_ltI (a := 10) (b := days) (by omega) (by omega)).mp zc17) (by omega) | exact absurd zc40 (by decide) | exact absurd ((nI_ltI (a := wh + 1) (b := 0) (by omega) (by omega)).mp zc40) (by omega) | exact absurd ((nI_ltI (a := days) (b := wh + 1) (by omega) (by omega)).mp zc46) (by omega) | exact absurd ((nI_ltI (a := days) (b := 0) (by omega) (by omega)).mp zc46) (by omega) | exact zc73 rfl | exact absurd zc73 (by decide) | exact absurd ((nI_eq (a := wh + 1) (b := 0) (by omega) (by omega)).mp (Decidable.not_not.mp zc73)) (by omega) | exact zc30 hmn1 | exact absurd zc30 (by rw [hmn1]; decide) | exact absurd zc35 (by rw [hmn1]; decide) | exact absurd zc30 (by rw [hmn1]; decide) | exact zc35 (by rw [hmn1]; rfl) | exact absurd (by rw [hmn1]; rfl) zc35) | (exfalso; simp_all; done)
            · intro zc35
              with_reducible first | have ze35 := Decidable.not_not.mp zc35 | have ze35 := zc35
              refine hB bX10_plan_38 _ _ _ _ _ _ _ kX10_plan_38 ?_
              dsimp only [bX10_plan_38, kx_wp, kx_step, kx_lI, kx_lL, kx_lA, kx_gl, kx_pI, kx_pL, kx_pR, kx_pA, kx_pV, kx_s1, kx_s2, kx_sl, kx_pre, kx_c2, kx_pl, kx_cmp, kx_oF, kx_eqN, kx_nil, kx_c1, kx_ft, kx_aI, kx_aL, kx_aR, kx_ln, Nat.reduceAdd, Option.toList, List.cons_append, List.nil_append, cf10_13, cf10_6]
              repeat (simp only [h64, h64s, h81, ks_eq, ks_ss]; try dsimp only [kx_wp, kx_step, kx_lI, kx_lL, kx_lA, kx_gl, kx_pI, kx_pL, kx_pR, kx_pA, kx_pV, kx_s1, kx_s2, kx_sl, kx_pre, kx_c2, kx_pl, kx_cmp, kx_oF, kx_eqN, kx_nil, kx_c1, kx_ft, kx_aI, kx_aL, kx_aR, kx_ln, Nat.reduceAdd, Option.toList, List.cons_append, List.nil_append, cf10_13, cf10_6])
              repeat' apply And.intro
              all_goals try (first | with_reducible assumption | (with_reducible refine ck_nzI ?_; simp; done) | (with_reducible refine ck_nzL ?_; simp; done) | (with_reducible refine vp_in_nI ?_ ?_ <;> first | omega | decide) | (with_reducible refine Nat.le_of_ble_eq_true ?_; rfl) | omega | exact Or.inl trivial | exact Or.inr trivial | exact Or.inl rfl | exact Or.inr rfl)
              · intro zc40
                first | exact absurd rfl zc40 | exact absurd zc40 (by decide) | exact absurd (by decide) zc40 | (exfalso; first | exact absurd zc6 (by decide) | exact absurd ((nI_ltI (a := days) (b := 1) (by omega) (by omega)).mp zc11) (by omega) | exact absurd ((nI_ltI (a := 10) (b := days) (by omega) (by omega)).mp zc17) (by omega) | exact absurd zc40 (by decide) | exact absurd ((nI_ltI (a := wh + 1) (b := 0) (by omega) (by omega)).mp zc40) (by omega) | exact absurd ((nI_ltI (a := days) (b := wh + 1) (by omega) (by omega)).mp zc46) (by omega) | exact absurd ((nI_ltI (a := days) (b := 0) (by omega) (by omega)).mp zc46) (by omega) | exact zc73 rfl | exact absurd zc73 (by decide) | exact absurd ((nI_eq (a := wh + 1) (b := 0) (by omega) (by omega)).mp (Decidable.not_not.mp zc73)) (by omega) | exact zc30 hmn1 | exact absurd zc30 (by rw [hmn1]; decide) | exact absurd zc35 (by rw [hmn1]; decide) | exact absurd zc30 (by rw [hmn1]; decide) | exact zc35 (by rw [hmn1]; rfl) | exact absurd (by rw [hmn1]; rfl) zc35) | (exfalso; simp_all; done)
              · intro zc40
                with_reducible first | have ze40 := Int32.not_lt.mp zc40 | have ze40 := zc40
                refine hB bX10_plan_43 _ _ _ _ _ _ _ kX10_plan_43 ?_
                dsimp only [bX10_plan_43, kx_wp, kx_step, kx_lI, kx_lL, kx_lA, kx_gl, kx_pI, kx_pL, kx_pR, kx_pA, kx_pV, kx_s1, kx_s2, kx_sl, kx_pre, kx_c2, kx_pl, kx_cmp, kx_oF, kx_eqN, kx_nil, kx_c1, kx_ft, kx_aI, kx_aL, kx_aR, kx_ln, Nat.reduceAdd, Option.toList, List.cons_append, List.nil_append, cf10_13, cf10_6]
                repeat (simp only [h64, h64s, h81, ks_eq, ks_ss]; try dsimp only [kx_wp, kx_step, kx_lI, kx_lL, kx_lA, kx_gl, kx_pI, kx_pL, kx_pR, kx_pA, kx_pV, kx_s1, kx_s2, kx_sl, kx_pre, kx_c2, kx_pl, kx_cmp, kx_oF, kx_eqN, kx_nil, kx_c1, kx_ft, kx_aI, kx_aL, kx_aR, kx_ln, Nat.reduceAdd, Option.toList, List.cons_append, List.nil_append, cf10_13, cf10_6])
                repeat' apply And.intro
                all_goals try (first | with_reducible assumption | (with_reducible refine ck_nzI ?_; simp; done) | (with_reducible refine ck_nzL ?_; simp; done) | (with_reducible refine vp_in_nI ?_ ?_ <;> first | omega | decide) | (with_reducible refine Nat.le_of_ble_eq_true ?_; rfl) | omega | exact Or.inl trivial | exact Or.inr trivial | exact Or.inl rfl | exact Or.inr rfl)
                · intro zc46
                  first | exact absurd rfl zc46 | exact absurd zc46 (by decide) | exact absurd (by decide) zc46 | (exfalso; first | exact absurd zc6 (by decide) | exact absurd ((nI_ltI (a := days) (b := 1) (by omega) (by omega)).mp zc11) (by omega) | exact absurd ((nI_ltI (a := 10) (b := days) (by omega) (by omega)).mp zc17) (by omega) | exact absurd zc40 (by decide) | exact absurd ((nI_ltI (a := wh + 1) (b := 0) (by omega) (by omega)).mp zc40) (by omega) | exact absurd ((nI_ltI (a := days) (b := wh + 1) (by omega) (by omega)).mp zc46) (by omega) | exact absurd ((nI_ltI (a := days) (b := 0) (by omega) (by omega)).mp zc46) (by omega) | exact zc73 rfl | exact absurd zc73 (by decide) | exact absurd ((nI_eq (a := wh + 1) (b := 0) (by omega) (by omega)).mp (Decidable.not_not.mp zc73)) (by omega) | exact zc30 hmn1 | exact absurd zc30 (by rw [hmn1]; decide) | exact absurd zc35 (by rw [hmn1]; decide) | exact absurd zc30 (by rw [hmn1]; decide) | exact zc35 (by rw [hmn1]; rfl) | exact absurd (by rw [hmn1]; rfl) zc35) | (exfalso; simp_all; done)
                · intro zc46
                  with_reducible first | have ze46 := Int32.not_lt.mp zc46 | have ze46 := zc46
                  refine hB bX10_plan_49 _ _ _ _ _ _ _ kX10_plan_49 ?_
                  dsimp only [bX10_plan_49, kx_wp, kx_step, kx_lI, kx_lL, kx_lA, kx_gl, kx_pI, kx_pL, kx_pR, kx_pA, kx_pV, kx_s1, kx_s2, kx_sl, kx_pre, kx_c2, kx_pl, kx_cmp, kx_oF, kx_eqN, kx_nil, kx_c1, kx_ft, kx_aI, kx_aL, kx_aR, kx_ln, Nat.reduceAdd, Option.toList, List.cons_append, List.nil_append, cf10_13, cf10_6]
                  repeat (simp only [h64, h64s, h81, ks_eq, ks_ss]; try dsimp only [kx_wp, kx_step, kx_lI, kx_lL, kx_lA, kx_gl, kx_pI, kx_pL, kx_pR, kx_pA, kx_pV, kx_s1, kx_s2, kx_sl, kx_pre, kx_c2, kx_pl, kx_cmp, kx_oF, kx_eqN, kx_nil, kx_c1, kx_ft, kx_aI, kx_aL, kx_aR, kx_ln, Nat.reduceAdd, Option.toList, List.cons_append, List.nil_append, cf10_13, cf10_6])
                  repeat' apply And.intro
                  all_goals try (first | with_reducible assumption | (with_reducible refine ck_nzI ?_; simp; done) | (with_reducible refine ck_nzL ?_; simp; done) | (with_reducible refine vp_in_nI ?_ ?_ <;> first | omega | decide) | (with_reducible refine Nat.le_of_ble_eq_true ?_; rfl) | omega | exact Or.inl trivial | exact Or.inr trivial | exact Or.inl rfl | exact Or.inr rfl)
                  refine hC.2.1 95 _ _ _ _ _ _ _ _ _ _ _ _ _ _ _ _ _ lX10_95 (ct_X10_need l G (b := 1) (by decide)) rfl rfl (Nat.le_of_ble_eq_true rfl) (by first | decide | omega) (by decide) (by omega) (by omega) dX10_plan_54 ?_
                  refine hB bX10_plan_57 _ _ _ _ _ _ _ kX10_plan_57 ?_
                  dsimp only [bX10_plan_57, kx_wp, kx_step, kx_lI, kx_lL, kx_lA, kx_gl, kx_pI, kx_pL, kx_pR, kx_pA, kx_pV, kx_s1, kx_s2, kx_sl, kx_pre, kx_c2, kx_pl, kx_cmp, kx_oF, kx_eqN, kx_nil, kx_c1, kx_ft, kx_aI, kx_aL, kx_aR, kx_ln, Nat.reduceAdd, Option.toList, List.cons_append, List.nil_append, cf10_13, cf10_6]
                  repeat (simp only [h64, h64s, h81, ks_eq, ks_ss]; try dsimp only [kx_wp, kx_step, kx_lI, kx_lL, kx_lA, kx_gl, kx_pI, kx_pL, kx_pR, kx_pA, kx_pV, kx_s1, kx_s2, kx_sl, kx_pre, kx_c2, kx_pl, kx_cmp, kx_oF, kx_eqN, kx_nil, kx_c1, kx_ft, kx_aI, kx_aL, kx_aR, kx_ln, Nat.reduceAdd, Option.toList, List.cons_append, List.nil_append, cf10_13, cf10_6])
                  repeat' apply And.intro
                  all_goals try (first | with_reducible assumption | (with_reducible refine ck_nzI ?_; simp; done) | (with_reducible refine ck_nzL ?_; simp; done) | (with_reducible refine vp_in_nI ?_ ?_ <;> first | omega | decide) | (with_reducible refine Nat.le_of_ble_eq_true ?_; rfl) | omega | exact Or.inl trivial | exact Or.inr trivial | exact Or.inl rfl | exact Or.inr rfl)
                  refine hC.1 281 _ _ _ _ _ _ _ 4 _ _ _ _ _ _ _ _ _ _ _ _ lX10_281 (hb9) ⟨by decide, rfl⟩ (h81) rfl rfl (Nat.le_of_ble_eq_true rfl) (by first | decide | omega) (by decide) (by omega) (by omega) dX10_plan_68 ?_
                  exact h71

set_option maxRecDepth 100000 in
set_option maxHeartbeats 4000000 in
theorem ct_X10_plan_ns (l : Launch) (G : kx_G) {P : kx_P} {sz : Nat} {sv : Value} {K : Nat → Int32} (h64 : P 64 = kO 10 (kf (cr10 sv) K)) {Fp NU WS : Nat → Int32} (h82 : P 82 = kI 0 4 NU) (h83 : P 83 = kI 0 4 WS) (hnf : P 2 = kI 5 11 cj_nf) {cl : Nat} (hcl : cl ≤ 8) {cn wn : Nat → Nat} {DD : Nat → Int64} {HH : Nat → Value} {CC VV : Nat → Nat → Int32} (hCS : cx_CS P cl cn wn DD HH CC VV) {lf run : Nat → Nat} (hlr : ∀ i, i < cl → CC i 6 = nI (lf i) ∧ lf i ≤ 44640 ∧ VV i 0 = nI (run i) ∧ 1 ≤ run i ∧ run i ≤ 31) {s days many se : Nat} (hs : s < 2 ^ cl) (hs4 : ck_pc s ≤ 4) (hd : 1 ≤ days ∧ days ≤ 10) (hmn : many = 1 ∨ many = 2) (h7 : Fp 7 = nI se) (hse : se ≤ 999) (hac : cx_ac (nI s) (K 7) 4 = 1) (h81 : P 81 = kO 4 (kf (cr4 .null) Fp)) (hfr : P sz = none) (hsz : 144 ≤ sz) {wh : Nat} (hwh : wh < days)  : kx_Mn l G sX10_plan 30 1 39973 [.ref 64, .int (nI s), .int (nI days), .int (nI many), .int (nI (wh + 1))] P sz (fun r P2 s2 => r = some (.int (cx_plv NU WS run lf s days many (wh + 1))) ∧ (∃ N2, P2 = kx_set (jW (kx_set P sz (kI 0 39973 (fun _ => 0))) (.ref sz) (cp_Fc Fp days many se lf s 8) (ck_pcl NU s 8) (cp_wsl WS run s 8)) sz (kI 0 39973 N2) ∧ ∀ i, i < 39973 → ∃ e : Nat, N2 i = nI e ∧ e < 64 * (se + 2)) ∧ s2 = (sz + 1)) := by
  have hJ : jW P (.null) Fp NU WS = P := by unfold jW; rw [ks_id h82, ks_id h83, ks_id h81]
  have hb9 := ct_X4_begin_n l G (sz := sz) hcl hCS hlr (F := Fp) (NU := NU) (WS := WS) (many := many) hs hs4 hd h7 (by omega : se ≤ 1000) hfr hsz
  rw [hJ] at hb9
  have h144 : 144 ≤ sz := hsz
  have s256 : s < 256 := Nat.lt_of_lt_of_le hs (Nat.le_trans (Nat.pow_le_pow_right (n := 2) (by decide) hcl) (by decide))
  have hct : ck_ct s 8 = ck_pc s := ck_ct_pc 8 (by omega) s s256
  have h64s : (jW (kx_set P sz (kI 0 39973 (fun _ => 0))) (.ref sz) (cp_Fc Fp days many se lf s 8) (ck_pcl NU s 8) (cp_wsl WS run s 8)) 64 = kO 10 (kf (cr10 sv) K) := (jW_o (by decide) (by decide) (by decide)).trans ((ks_ne (by omega)).trans h64)
  have hp9 : cp_H (jW (kx_set P sz (kI 0 39973 (fun _ => 0))) (.ref sz) (cp_Fc Fp days many se lf s 8) (ck_pcl NU s 8) (cp_wsl WS run s 8)) sz (cp_Fc Fp days many se lf s 8) (cp_wsl WS run s 8) (fun _ => 0) (cx_ws WS run s) (ck_ct s 8) days many := by
    refine ⟨jW_81, jW_83, (jW_o (by decide) (by decide) (by decide)).trans ((ks_ne (by omega)).trans hnf), (jW_o (by omega) (by omega) (by omega)).trans (ks_eq _ _ _), h144, rfl, by omega, rfl, hd.2, rfl, by omega, fun i hi => ?_⟩
    obtain ⟨v9, h1, h2⟩ := cp_wsl_ok (WS := WS) (run := run) (s := s) 8 (fun j hj hb => by
      by_cases hjc : j < cl
      · exact (hlr j hjc).2.2.2.2
      · exact absurd hb (by rw [cp_bt0 s s256 cl hcl hs j hj (by omega)]; decide)) i hi
    have h3 : cx_ws WS run s i = v9 := by unfold cx_ws; rw [h2]; exact nI_clamp (by omega)
    rw [h3]
    exact ⟨h2, h1⟩
  have hv9 : cp_nv (cx_ws WS run s) (ck_ct s 8) many days (se + 1) (fun _ => 0) := cp_nv0 (fun i _ => ⟨0, rfl, by omega⟩) (by omega) hd.2 (by omega)
  have hF7 : cp_Fc Fp days many se lf s 8 7 = nI (se + 1) := rfl
  have hst9 : ∀ N2, cp_nv (cx_ws WS run s) (ck_ct s 8) many days (se + 1) N2 → ∀ i, i < 39973 → ∃ e : Nat, N2 i = nI e ∧ e < 64 * (se + 2) := fun N2 h => h.1
  have ewh : nI (wh + 1) - 1 = nI wh := pk_sub (by omega : 1 ≤ wh + 1)
  refine kx_mkn kx_tab kxLok_X10 (ini := false) [some (.ref 64), some (.int (nI s)), some (.int (nI days)), some (.int (nI many)), some (.int (nI (wh + 1)))] ⟨by decide, rfl, by decide, by decide⟩ (fun _ _ _ h => ⟨_, h.1⟩) rfl rfl (fun g hB hC hN => ?_)
  have hgo : (cp_stl lf days s 8 = none) ∨ (∃ st, cp_stl lf days s 8 = some st) := by
    cases hst : cp_stl lf days s 8 with
    | none => exact Or.inl rfl
    | some st => exact Or.inr ⟨st, rfl⟩
  have h71 : g 71 [some (.ref 64), some (.int (nI s)), some (.int (nI days)), some (.int (nI many)), some (.int (nI (wh + 1)))] [] (jW (kx_set P sz (kI 0 39973 (fun _ => 0))) (.ref sz) (cp_Fc Fp days many se lf s 8) (ck_pcl NU s 8) (cp_wsl WS run s 8)) (sz + 1) (0 + 1) (0 + 39973) := by
    rcases hgo with hst | ⟨st, hst⟩
    · have h5 : cp_Fc Fp days many se lf s 8 5 = -1 := by
        show cp_oi (cp_stl lf days s 8) = -1
        rw [hst]
        rfl
      have hid : kx_set (jW (kx_set P sz (kI 0 39973 (fun _ => 0))) (.ref sz) (cp_Fc Fp days many se lf s 8) (ck_pcl NU s 8) (cp_wsl WS run s 8)) sz (kI 0 39973 (fun _ => 0)) = (jW (kx_set P sz (kI 0 39973 (fun _ => 0))) (.ref sz) (cp_Fc Fp days many se lf s 8) (ck_pcl NU s 8) (cp_wsl WS run s 8)) := ks_id hp9.2.2.2.1
      have hN9 : ∃ N2, (jW (kx_set P sz (kI 0 39973 (fun _ => 0))) (.ref sz) (cp_Fc Fp days many se lf s 8) (ck_pcl NU s 8) (cp_wsl WS run s 8)) = kx_set (jW (kx_set P sz (kI 0 39973 (fun _ => 0))) (.ref sz) (cp_Fc Fp days many se lf s 8) (ck_pcl NU s 8) (cp_wsl WS run s 8)) sz (kI 0 39973 N2) ∧ ∀ i, i < 39973 → ∃ e : Nat, N2 i = nI e ∧ e < 64 * (se + 2) := ⟨(fun _ => 0), hid.symm, hst9 _ hv9⟩
      have hre : some (Value.int (-1)) = some (.int (cx_plv NU WS run lf s days many (wh + 1))) := by rw [cx_plv_n hst]
      refine hB bX10_plan_71 _ _ _ _ _ _ _ kX10_plan_71 ?_
      dsimp only [bX10_plan_71, kx_wp, kx_step, kx_lI, kx_lL, kx_lA, kx_gl, kx_pI, kx_pL, kx_pR, kx_pA, kx_pV, kx_s1, kx_s2, kx_sl, kx_pre, kx_c2, kx_pl, kx_cmp, kx_oF, kx_eqN, kx_nil, kx_c1, kx_ft, kx_aI, kx_aL, kx_aR, kx_ln, Nat.reduceAdd, Option.toList, List.cons_append, List.nil_append, cf10_13, cf10_6]
      repeat (simp only [h64, h64s, h81, ewh, ks_eq, ks_ss]; try dsimp only [kx_wp, kx_step, kx_lI, kx_lL, kx_lA, kx_gl, kx_pI, kx_pL, kx_pR, kx_pA, kx_pV, kx_s1, kx_s2, kx_sl, kx_pre, kx_c2, kx_pl, kx_cmp, kx_oF, kx_eqN, kx_nil, kx_c1, kx_ft, kx_aI, kx_aL, kx_aR, kx_ln, Nat.reduceAdd, Option.toList, List.cons_append, List.nil_append, cf10_13, cf10_6])
      repeat' apply And.intro
      all_goals try (first | with_reducible assumption | (with_reducible refine ck_nzI ?_; simp; done) | (with_reducible refine ck_nzL ?_; simp; done) | (with_reducible refine vp_in_nI ?_ ?_ <;> first | omega | decide) | (with_reducible refine Nat.le_of_ble_eq_true ?_; rfl) | omega | exact Or.inl trivial | exact Or.inr trivial | exact Or.inl rfl | exact Or.inr rfl)
      · intro zc73
        have ze73 := zc73
        refine hB bX10_plan_86 _ _ _ _ _ _ _ kX10_plan_86 ?_
        dsimp only [bX10_plan_86, kx_wp, kx_step, kx_lI, kx_lL, kx_lA, kx_gl, kx_pI, kx_pL, kx_pR, kx_pA, kx_pV, kx_s1, kx_s2, kx_sl, kx_pre, kx_c2, kx_pl, kx_cmp, kx_oF, kx_eqN, kx_nil, kx_c1, kx_ft, kx_aI, kx_aL, kx_aR, kx_ln, Nat.reduceAdd, Option.toList, List.cons_append, List.nil_append, cf10_13, cf10_6]
        repeat (simp only [h64, h64s, h81, ewh, ks_eq, ks_ss]; try dsimp only [kx_wp, kx_step, kx_lI, kx_lL, kx_lA, kx_gl, kx_pI, kx_pL, kx_pR, kx_pA, kx_pV, kx_s1, kx_s2, kx_sl, kx_pre, kx_c2, kx_pl, kx_cmp, kx_oF, kx_eqN, kx_nil, kx_c1, kx_ft, kx_aI, kx_aL, kx_aR, kx_ln, Nat.reduceAdd, Option.toList, List.cons_append, List.nil_append, cf10_13, cf10_6])
        repeat' apply And.intro
        all_goals try (first | with_reducible assumption | (with_reducible refine ck_nzI ?_; simp; done) | (with_reducible refine ck_nzL ?_; simp; done) | (with_reducible refine vp_in_nI ?_ ?_ <;> first | omega | decide) | (with_reducible refine Nat.le_of_ble_eq_true ?_; rfl) | omega | exact Or.inl trivial | exact Or.inr trivial | exact Or.inl rfl | exact Or.inr rfl)
        refine hC.1 286 _ _ _ _ _ _ _ 4 _ _ _ _ _ _ _ _ _ _ _ _ lX10_286 (ct_X4_woundAt_n l G jW_81 h5) ⟨by decide, rfl⟩ (jW_81) rfl rfl (Nat.le_of_ble_eq_true rfl) (by first | decide | omega) (by decide) (by omega) (by omega) dX10_plan_94 ?_
        refine hB bX10_plan_97 _ _ _ _ _ _ _ kX10_plan_97 ?_
        dsimp only [bX10_plan_97, kx_wp, kx_step, kx_lI, kx_lL, kx_lA, kx_gl, kx_pI, kx_pL, kx_pR, kx_pA, kx_pV, kx_s1, kx_s2, kx_sl, kx_pre, kx_c2, kx_pl, kx_cmp, kx_oF, kx_eqN, kx_nil, kx_c1, kx_ft, kx_aI, kx_aL, kx_aR, kx_ln, Nat.reduceAdd, Option.toList, List.cons_append, List.nil_append, cf10_13, cf10_6]
        repeat (simp only [h64, h64s, h81, ewh, ks_eq, ks_ss]; try dsimp only [kx_wp, kx_step, kx_lI, kx_lL, kx_lA, kx_gl, kx_pI, kx_pL, kx_pR, kx_pA, kx_pV, kx_s1, kx_s2, kx_sl, kx_pre, kx_c2, kx_pl, kx_cmp, kx_oF, kx_eqN, kx_nil, kx_c1, kx_ft, kx_aI, kx_aL, kx_aR, kx_ln, Nat.reduceAdd, Option.toList, List.cons_append, List.nil_append, cf10_13, cf10_6])
        all_goals (repeat' apply And.intro)
        all_goals ((try clear hB hC); first | exact True.intro | rfl | exact hre | exact hN9)
      · intro zc73
        first | exact absurd rfl zc73 | exact absurd zc73 (by decide) | exact absurd (by decide) zc73 | (exfalso; first | exact absurd zc6 (by decide) | exact absurd ((nI_ltI (a := days) (b := 1) (by omega) (by omega)).mp zc11) (by omega) | exact absurd ((nI_ltI (a := 10) (b := days) (by omega) (by omega)).mp zc17) (by omega) | exact absurd zc40 (by decide) | exact absurd ((nI_ltI (a := wh + 1) (b := 0) (by omega) (by omega)).mp zc40) (by omega) | exact absurd ((nI_ltI (a := days) (b := wh + 1) (by omega) (by omega)).mp zc46) (by omega) | exact absurd ((nI_ltI (a := days) (b := 0) (by omega) (by omega)).mp zc46) (by omega) | exact zc73 rfl | exact absurd zc73 (by decide) | exact absurd ((nI_eq (a := wh + 1) (b := 0) (by omega) (by omega)).mp (Decidable.not_not.mp zc73)) (by omega) | exact zc30 hmn1 | exact absurd zc30 (by rw [hmn1]; decide) | exact absurd zc35 (by rw [hmn1]; decide) | exact absurd zc30 (by rw [hmn1]; decide) | exact zc35 (by rw [hmn1]; rfl) | exact absurd (by rw [hmn1]; rfl) zc35) | (exfalso; simp_all; done)
    · by_cases hfe : cp_fw (cx_ws WS run s) (ck_ct s 8) many days st < 63
      · have h5 : cp_Fc Fp days many se lf s 8 5 = nI st := by
          show cp_oi (cp_stl lf days s 8) = nI st
          rw [hst]
          rfl
        have hok := cp_stl_ok (lf := lf) (days := days) (s := s) hd.2 8 st hst
        have hm9 := ct_X4_woundAt l G (sz := (sz + 1)) hp9 hF7 (by omega) hv9 hok h5 jW_82 hwh hfe
        have hre : some (Value.int (cp_nm (ck_pcl NU s 8) (cp_fb (cx_ws WS run s) (ck_ct s 8) many (days - wh - 1) (cp_wn (cx_ws WS run s) (ck_ct s 8) many days st wh)) (ck_ct s 8))) = some (.int (cx_plv NU WS run lf s days many (wh + 1))) := by rw [cx_plv_s hst hfe]
        refine hB bX10_plan_71 _ _ _ _ _ _ _ kX10_plan_71 ?_
        dsimp only [bX10_plan_71, kx_wp, kx_step, kx_lI, kx_lL, kx_lA, kx_gl, kx_pI, kx_pL, kx_pR, kx_pA, kx_pV, kx_s1, kx_s2, kx_sl, kx_pre, kx_c2, kx_pl, kx_cmp, kx_oF, kx_eqN, kx_nil, kx_c1, kx_ft, kx_aI, kx_aL, kx_aR, kx_ln, Nat.reduceAdd, Option.toList, List.cons_append, List.nil_append, cf10_13, cf10_6]
        repeat (simp only [h64, h64s, h81, ewh, ks_eq, ks_ss]; try dsimp only [kx_wp, kx_step, kx_lI, kx_lL, kx_lA, kx_gl, kx_pI, kx_pL, kx_pR, kx_pA, kx_pV, kx_s1, kx_s2, kx_sl, kx_pre, kx_c2, kx_pl, kx_cmp, kx_oF, kx_eqN, kx_nil, kx_c1, kx_ft, kx_aI, kx_aL, kx_aR, kx_ln, Nat.reduceAdd, Option.toList, List.cons_append, List.nil_append, cf10_13, cf10_6])
        repeat' apply And.intro
        all_goals try (first | with_reducible assumption | (with_reducible refine ck_nzI ?_; simp; done) | (with_reducible refine ck_nzL ?_; simp; done) | (with_reducible refine vp_in_nI ?_ ?_ <;> first | omega | decide) | (with_reducible refine Nat.le_of_ble_eq_true ?_; rfl) | omega | exact Or.inl trivial | exact Or.inr trivial | exact Or.inl rfl | exact Or.inr rfl)
        · intro zc73
          have ze73 := zc73
          refine hB bX10_plan_86 _ _ _ _ _ _ _ kX10_plan_86 ?_
          dsimp only [bX10_plan_86, kx_wp, kx_step, kx_lI, kx_lL, kx_lA, kx_gl, kx_pI, kx_pL, kx_pR, kx_pA, kx_pV, kx_s1, kx_s2, kx_sl, kx_pre, kx_c2, kx_pl, kx_cmp, kx_oF, kx_eqN, kx_nil, kx_c1, kx_ft, kx_aI, kx_aL, kx_aR, kx_ln, Nat.reduceAdd, Option.toList, List.cons_append, List.nil_append, cf10_13, cf10_6]
          repeat (simp only [h64, h64s, h81, ewh, ks_eq, ks_ss]; try dsimp only [kx_wp, kx_step, kx_lI, kx_lL, kx_lA, kx_gl, kx_pI, kx_pL, kx_pR, kx_pA, kx_pV, kx_s1, kx_s2, kx_sl, kx_pre, kx_c2, kx_pl, kx_cmp, kx_oF, kx_eqN, kx_nil, kx_c1, kx_ft, kx_aI, kx_aL, kx_aR, kx_ln, Nat.reduceAdd, Option.toList, List.cons_append, List.nil_append, cf10_13, cf10_6])
          repeat' apply And.intro
          all_goals try (first | with_reducible assumption | (with_reducible refine ck_nzI ?_; simp; done) | (with_reducible refine ck_nzL ?_; simp; done) | (with_reducible refine vp_in_nI ?_ ?_ <;> first | omega | decide) | (with_reducible refine Nat.le_of_ble_eq_true ?_; rfl) | omega | exact Or.inl trivial | exact Or.inr trivial | exact Or.inl rfl | exact Or.inr rfl)
          refine hN.1 286 _ _ _ _ _ _ _ 4 _ _ _ _ _ _ _ _ _ _ lX10_286 (hm9) ⟨by decide, rfl⟩ (jW_81) rfl rfl (Nat.le_of_ble_eq_true rfl) (by omega) (by decide) (by omega) (by omega) dX10_plan_94 ?_
          rintro r2 P2 s2 ⟨rfl, ⟨N2, rfl, hN2⟩, rfl⟩
          have hN9 : ∃ N3, kx_set (jW (kx_set P sz (kI 0 39973 (fun _ => 0))) (.ref sz) (cp_Fc Fp days many se lf s 8) (ck_pcl NU s 8) (cp_wsl WS run s 8)) sz (kI 0 39973 N2) = kx_set (jW (kx_set P sz (kI 0 39973 (fun _ => 0))) (.ref sz) (cp_Fc Fp days many se lf s 8) (ck_pcl NU s 8) (cp_wsl WS run s 8)) sz (kI 0 39973 N3) ∧ ∀ i, i < 39973 → ∃ e : Nat, N3 i = nI e ∧ e < 64 * (se + 2) := ⟨N2, rfl, hst9 _ hN2⟩
          dsimp only [Option.toList, List.cons_append, List.nil_append]
          refine hB bX10_plan_97 _ _ _ _ _ _ _ kX10_plan_97 ?_
          dsimp only [bX10_plan_97, kx_wp, kx_step, kx_lI, kx_lL, kx_lA, kx_gl, kx_pI, kx_pL, kx_pR, kx_pA, kx_pV, kx_s1, kx_s2, kx_sl, kx_pre, kx_c2, kx_pl, kx_cmp, kx_oF, kx_eqN, kx_nil, kx_c1, kx_ft, kx_aI, kx_aL, kx_aR, kx_ln, Nat.reduceAdd, Option.toList, List.cons_append, List.nil_append, cf10_13, cf10_6]
          repeat (simp only [h64, h64s, h81, ewh, ks_eq, ks_ss]; try dsimp only [kx_wp, kx_step, kx_lI, kx_lL, kx_lA, kx_gl, kx_pI, kx_pL, kx_pR, kx_pA, kx_pV, kx_s1, kx_s2, kx_sl, kx_pre, kx_c2, kx_pl, kx_cmp, kx_oF, kx_eqN, kx_nil, kx_c1, kx_ft, kx_aI, kx_aL, kx_aR, kx_ln, Nat.reduceAdd, Option.toList, List.cons_append, List.nil_append, cf10_13, cf10_6])
          all_goals (repeat' apply And.intro)
          all_goals ((try clear hB hC); first | exact True.intro | rfl | exact hre | exact hN9)
        · intro zc73
          first | exact absurd rfl zc73 | exact absurd zc73 (by decide) | exact absurd (by decide) zc73 | (exfalso; first | exact absurd zc6 (by decide) | exact absurd ((nI_ltI (a := days) (b := 1) (by omega) (by omega)).mp zc11) (by omega) | exact absurd ((nI_ltI (a := 10) (b := days) (by omega) (by omega)).mp zc17) (by omega) | exact absurd zc40 (by decide) | exact absurd ((nI_ltI (a := wh + 1) (b := 0) (by omega) (by omega)).mp zc40) (by omega) | exact absurd ((nI_ltI (a := days) (b := wh + 1) (by omega) (by omega)).mp zc46) (by omega) | exact absurd ((nI_ltI (a := days) (b := 0) (by omega) (by omega)).mp zc46) (by omega) | exact zc73 rfl | exact absurd zc73 (by decide) | exact absurd ((nI_eq (a := wh + 1) (b := 0) (by omega) (by omega)).mp (Decidable.not_not.mp zc73)) (by omega) | exact zc30 hmn1 | exact absurd zc30 (by rw [hmn1]; decide) | exact absurd zc35 (by rw [hmn1]; decide) | exact absurd zc30 (by rw [hmn1]; decide) | exact zc35 (by rw [hmn1]; rfl) | exact absurd (by rw [hmn1]; rfl) zc35) | (exfalso; simp_all; done)
      · have h5 : cp_Fc Fp days many se lf s 8 5 = nI st := by
          show cp_oi (cp_stl lf days s 8) = nI st
          rw [hst]
          rfl
        have hok := cp_stl_ok (lf := lf) (days := days) (s := s) hd.2 8 st hst
        have hm9 := ct_X4_woundAt_b l G (sz := (sz + 1)) hp9 hF7 (by omega) hv9 hok h5 hfe (x := nI wh)
        have hre : some (Value.int (-1)) = some (.int (cx_plv NU WS run lf s days many (wh + 1))) := by rw [cx_plv_b hst hfe]
        refine hB bX10_plan_71 _ _ _ _ _ _ _ kX10_plan_71 ?_
        dsimp only [bX10_plan_71, kx_wp, kx_step, kx_lI, kx_lL, kx_lA, kx_gl, kx_pI, kx_pL, kx_pR, kx_pA, kx_pV, kx_s1, kx_s2, kx_sl, kx_pre, kx_c2, kx_pl, kx_cmp, kx_oF, kx_eqN, kx_nil, kx_c1, kx_ft, kx_aI, kx_aL, kx_aR, kx_ln, Nat.reduceAdd, Option.toList, List.cons_append, List.nil_append, cf10_13, cf10_6]
        repeat (simp only [h64, h64s, h81, ewh, ks_eq, ks_ss]; try dsimp only [kx_wp, kx_step, kx_lI, kx_lL, kx_lA, kx_gl, kx_pI, kx_pL, kx_pR, kx_pA, kx_pV, kx_s1, kx_s2, kx_sl, kx_pre, kx_c2, kx_pl, kx_cmp, kx_oF, kx_eqN, kx_nil, kx_c1, kx_ft, kx_aI, kx_aL, kx_aR, kx_ln, Nat.reduceAdd, Option.toList, List.cons_append, List.nil_append, cf10_13, cf10_6])
        repeat' apply And.intro
        all_goals try (first | with_reducible assumption | (with_reducible refine ck_nzI ?_; simp; done) | (with_reducible refine ck_nzL ?_; simp; done) | (with_reducible refine vp_in_nI ?_ ?_ <;> first | omega | decide) | (with_reducible refine Nat.le_of_ble_eq_true ?_; rfl) | omega | exact Or.inl trivial | exact Or.inr trivial | exact Or.inl rfl | exact Or.inr rfl)
        · intro zc73
          have ze73 := zc73
          refine hB bX10_plan_86 _ _ _ _ _ _ _ kX10_plan_86 ?_
          dsimp only [bX10_plan_86, kx_wp, kx_step, kx_lI, kx_lL, kx_lA, kx_gl, kx_pI, kx_pL, kx_pR, kx_pA, kx_pV, kx_s1, kx_s2, kx_sl, kx_pre, kx_c2, kx_pl, kx_cmp, kx_oF, kx_eqN, kx_nil, kx_c1, kx_ft, kx_aI, kx_aL, kx_aR, kx_ln, Nat.reduceAdd, Option.toList, List.cons_append, List.nil_append, cf10_13, cf10_6]
          repeat (simp only [h64, h64s, h81, ewh, ks_eq, ks_ss]; try dsimp only [kx_wp, kx_step, kx_lI, kx_lL, kx_lA, kx_gl, kx_pI, kx_pL, kx_pR, kx_pA, kx_pV, kx_s1, kx_s2, kx_sl, kx_pre, kx_c2, kx_pl, kx_cmp, kx_oF, kx_eqN, kx_nil, kx_c1, kx_ft, kx_aI, kx_aL, kx_aR, kx_ln, Nat.reduceAdd, Option.toList, List.cons_append, List.nil_append, cf10_13, cf10_6])
          repeat' apply And.intro
          all_goals try (first | with_reducible assumption | (with_reducible refine ck_nzI ?_; simp; done) | (with_reducible refine ck_nzL ?_; simp; done) | (with_reducible refine vp_in_nI ?_ ?_ <;> first | omega | decide) | (with_reducible refine Nat.le_of_ble_eq_true ?_; rfl) | omega | exact Or.inl trivial | exact Or.inr trivial | exact Or.inl rfl | exact Or.inr rfl)
          refine hN.1 286 _ _ _ _ _ _ _ 4 _ _ _ _ _ _ _ _ _ _ lX10_286 (hm9) ⟨by decide, rfl⟩ (jW_81) rfl rfl (Nat.le_of_ble_eq_true rfl) (by omega) (by decide) (by omega) (by omega) dX10_plan_94 ?_
          rintro r2 P2 s2 ⟨rfl, ⟨N2, rfl, hN2⟩, rfl⟩
          have hN9 : ∃ N3, kx_set (jW (kx_set P sz (kI 0 39973 (fun _ => 0))) (.ref sz) (cp_Fc Fp days many se lf s 8) (ck_pcl NU s 8) (cp_wsl WS run s 8)) sz (kI 0 39973 N2) = kx_set (jW (kx_set P sz (kI 0 39973 (fun _ => 0))) (.ref sz) (cp_Fc Fp days many se lf s 8) (ck_pcl NU s 8) (cp_wsl WS run s 8)) sz (kI 0 39973 N3) ∧ ∀ i, i < 39973 → ∃ e : Nat, N3 i = nI e ∧ e < 64 * (se + 2) := ⟨N2, rfl, hst9 _ hN2⟩
          dsimp only [Option.toList, List.cons_append, List.nil_append]
          refine hB bX10_plan_97 _ _ _ _ _ _ _ kX10_plan_97 ?_
          dsimp only [bX10_plan_97, kx_wp, kx_step, kx_lI, kx_lL, kx_lA, kx_gl, kx_pI, kx_pL, kx_pR, kx_pA, kx_pV, kx_s1, kx_s2, kx_sl, kx_pre, kx_c2, kx_pl, kx_cmp, kx_oF, kx_eqN, kx_nil, kx_c1, kx_ft, kx_aI, kx_aL, kx_aR, kx_ln, Nat.reduceAdd, Option.toList, List.cons_append, List.nil_append, cf10_13, cf10_6]
          repeat (simp only [h64, h64s, h81, ewh, ks_eq, ks_ss]; try dsimp only [kx_wp, kx_step, kx_lI, kx_lL, kx_lA, kx_gl, kx_pI, kx_pL, kx_pR, kx_pA, kx_pV, kx_s1, kx_s2, kx_sl, kx_pre, kx_c2, kx_pl, kx_cmp, kx_oF, kx_eqN, kx_nil, kx_c1, kx_ft, kx_aI, kx_aL, kx_aR, kx_ln, Nat.reduceAdd, Option.toList, List.cons_append, List.nil_append, cf10_13, cf10_6])
          all_goals (repeat' apply And.intro)
          all_goals ((try clear hB hC); first | exact True.intro | rfl | exact hre | exact hN9)
        · intro zc73
          first | exact absurd rfl zc73 | exact absurd zc73 (by decide) | exact absurd (by decide) zc73 | (exfalso; first | exact absurd zc6 (by decide) | exact absurd ((nI_ltI (a := days) (b := 1) (by omega) (by omega)).mp zc11) (by omega) | exact absurd ((nI_ltI (a := 10) (b := days) (by omega) (by omega)).mp zc17) (by omega) | exact absurd zc40 (by decide) | exact absurd ((nI_ltI (a := wh + 1) (b := 0) (by omega) (by omega)).mp zc40) (by omega) | exact absurd ((nI_ltI (a := days) (b := wh + 1) (by omega) (by omega)).mp zc46) (by omega) | exact absurd ((nI_ltI (a := days) (b := 0) (by omega) (by omega)).mp zc46) (by omega) | exact zc73 rfl | exact absurd zc73 (by decide) | exact absurd ((nI_eq (a := wh + 1) (b := 0) (by omega) (by omega)).mp (Decidable.not_not.mp zc73)) (by omega) | exact zc30 hmn1 | exact absurd zc30 (by rw [hmn1]; decide) | exact absurd zc35 (by rw [hmn1]; decide) | exact absurd zc30 (by rw [hmn1]; decide) | exact zc35 (by rw [hmn1]; rfl) | exact absurd (by rw [hmn1]; rfl) zc35) | (exfalso; simp_all; done)
  rcases hmn with hmn1 | hmn1
  · refine hB bX10_plan_0 _ _ _ _ _ _ _ kX10_plan_0 ?_
    dsimp only [bX10_plan_0, kx_wp, kx_step, kx_lI, kx_lL, kx_lA, kx_gl, kx_pI, kx_pL, kx_pR, kx_pA, kx_pV, kx_s1, kx_s2, kx_sl, kx_pre, kx_c2, kx_pl, kx_cmp, kx_oF, kx_eqN, kx_nil, kx_c1, kx_ft, kx_aI, kx_aL, kx_aR, kx_ln, Nat.reduceAdd, Option.toList, List.cons_append, List.nil_append, cf10_13, cf10_6]
    repeat (simp only [h64, h64s, h81, ewh, ks_eq, ks_ss]; try dsimp only [kx_wp, kx_step, kx_lI, kx_lL, kx_lA, kx_gl, kx_pI, kx_pL, kx_pR, kx_pA, kx_pV, kx_s1, kx_s2, kx_sl, kx_pre, kx_c2, kx_pl, kx_cmp, kx_oF, kx_eqN, kx_nil, kx_c1, kx_ft, kx_aI, kx_aL, kx_aR, kx_ln, Nat.reduceAdd, Option.toList, List.cons_append, List.nil_append, cf10_13, cf10_6])
    repeat' apply And.intro
    all_goals try (first | with_reducible assumption | (with_reducible refine ck_nzI ?_; simp; done) | (with_reducible refine ck_nzL ?_; simp; done) | (with_reducible refine vp_in_nI ?_ ?_ <;> first | omega | decide) | (with_reducible refine Nat.le_of_ble_eq_true ?_; rfl) | omega | exact Or.inl trivial | exact Or.inr trivial | exact Or.inl rfl | exact Or.inr rfl)
    refine hC.1 261 _ _ _ _ _ _ _ 10 _ _ _ _ _ _ _ _ _ _ _ _ lX10_261 (ct_X10_areClocks l G h64) ⟨by decide, rfl⟩ (h64) rfl rfl (Nat.le_of_ble_eq_true rfl) (by first | decide | omega) (by decide) (by omega) (by omega) dX10_plan_3 ?_
    rw [hac]
    refine hB bX10_plan_6 _ _ _ _ _ _ _ kX10_plan_6 ?_
    dsimp only [bX10_plan_6, kx_wp, kx_step, kx_lI, kx_lL, kx_lA, kx_gl, kx_pI, kx_pL, kx_pR, kx_pA, kx_pV, kx_s1, kx_s2, kx_sl, kx_pre, kx_c2, kx_pl, kx_cmp, kx_oF, kx_eqN, kx_nil, kx_c1, kx_ft, kx_aI, kx_aL, kx_aR, kx_ln, Nat.reduceAdd, Option.toList, List.cons_append, List.nil_append, cf10_13, cf10_6]
    repeat (simp only [h64, h64s, h81, ewh, ks_eq, ks_ss]; try dsimp only [kx_wp, kx_step, kx_lI, kx_lL, kx_lA, kx_gl, kx_pI, kx_pL, kx_pR, kx_pA, kx_pV, kx_s1, kx_s2, kx_sl, kx_pre, kx_c2, kx_pl, kx_cmp, kx_oF, kx_eqN, kx_nil, kx_c1, kx_ft, kx_aI, kx_aL, kx_aR, kx_ln, Nat.reduceAdd, Option.toList, List.cons_append, List.nil_append, cf10_13, cf10_6])
    repeat' apply And.intro
    all_goals try (first | with_reducible assumption | (with_reducible refine ck_nzI ?_; simp; done) | (with_reducible refine ck_nzL ?_; simp; done) | (with_reducible refine vp_in_nI ?_ ?_ <;> first | omega | decide) | (with_reducible refine Nat.le_of_ble_eq_true ?_; rfl) | omega | exact Or.inl trivial | exact Or.inr trivial | exact Or.inl rfl | exact Or.inr rfl)
    · intro zc6
      first | exact absurd rfl zc6 | exact absurd zc6 (by decide) | exact absurd (by decide) zc6 | (exfalso; first | exact absurd zc6 (by decide) | exact absurd ((nI_ltI (a := days) (b := 1) (by omega) (by omega)).mp zc11) (by omega) | exact absurd ((nI_ltI (a := 10) (b := days) (by omega) (by omega)).mp zc17) (by omega) | exact absurd zc40 (by decide) | exact absurd ((nI_ltI (a := wh + 1) (b := 0) (by omega) (by omega)).mp zc40) (by omega) | exact absurd ((nI_ltI (a := days) (b := wh + 1) (by omega) (by omega)).mp zc46) (by omega) | exact absurd ((nI_ltI (a := days) (b := 0) (by omega) (by omega)).mp zc46) (by omega) | exact zc73 rfl | exact absurd zc73 (by decide) | exact absurd ((nI_eq (a := wh + 1) (b := 0) (by omega) (by omega)).mp (Decidable.not_not.mp zc73)) (by omega) | exact zc30 hmn1 | exact absurd zc30 (by rw [hmn1]; decide) | exact absurd zc35 (by rw [hmn1]; decide) | exact absurd zc30 (by rw [hmn1]; decide) | exact zc35 (by rw [hmn1]; rfl) | exact absurd (by rw [hmn1]; rfl) zc35) | (exfalso; simp_all; done)
    · intro zc6
      have ze6 := zc6
      refine hB bX10_plan_9 _ _ _ _ _ _ _ kX10_plan_9 ?_
      dsimp only [bX10_plan_9, kx_wp, kx_step, kx_lI, kx_lL, kx_lA, kx_gl, kx_pI, kx_pL, kx_pR, kx_pA, kx_pV, kx_s1, kx_s2, kx_sl, kx_pre, kx_c2, kx_pl, kx_cmp, kx_oF, kx_eqN, kx_nil, kx_c1, kx_ft, kx_aI, kx_aL, kx_aR, kx_ln, Nat.reduceAdd, Option.toList, List.cons_append, List.nil_append, cf10_13, cf10_6]
      repeat (simp only [h64, h64s, h81, ewh, ks_eq, ks_ss]; try dsimp only [kx_wp, kx_step, kx_lI, kx_lL, kx_lA, kx_gl, kx_pI, kx_pL, kx_pR, kx_pA, kx_pV, kx_s1, kx_s2, kx_sl, kx_pre, kx_c2, kx_pl, kx_cmp, kx_oF, kx_eqN, kx_nil, kx_c1, kx_ft, kx_aI, kx_aL, kx_aR, kx_ln, Nat.reduceAdd, Option.toList, List.cons_append, List.nil_append, cf10_13, cf10_6])
      repeat' apply And.intro
      all_goals try (first | with_reducible assumption | (with_reducible refine ck_nzI ?_; simp; done) | (with_reducible refine ck_nzL ?_; simp; done) | (with_reducible refine vp_in_nI ?_ ?_ <;> first | omega | decide) | (with_reducible refine Nat.le_of_ble_eq_true ?_; rfl) | omega | exact Or.inl trivial | exact Or.inr trivial | exact Or.inl rfl | exact Or.inr rfl)
      · intro zc11
        first | exact absurd rfl zc11 | exact absurd zc11 (by decide) | exact absurd (by decide) zc11 | (exfalso; first | exact absurd zc6 (by decide) | exact absurd ((nI_ltI (a := days) (b := 1) (by omega) (by omega)).mp zc11) (by omega) | exact absurd ((nI_ltI (a := 10) (b := days) (by omega) (by omega)).mp zc17) (by omega) | exact absurd zc40 (by decide) | exact absurd ((nI_ltI (a := wh + 1) (b := 0) (by omega) (by omega)).mp zc40) (by omega) | exact absurd ((nI_ltI (a := days) (b := wh + 1) (by omega) (by omega)).mp zc46) (by omega) | exact absurd ((nI_ltI (a := days) (b := 0) (by omega) (by omega)).mp zc46) (by omega) | exact zc73 rfl | exact absurd zc73 (by decide) | exact absurd ((nI_eq (a := wh + 1) (b := 0) (by omega) (by omega)).mp (Decidable.not_not.mp zc73)) (by omega) | exact zc30 hmn1 | exact absurd zc30 (by rw [hmn1]; decide) | exact absurd zc35 (by rw [hmn1]; decide) | exact absurd zc30 (by rw [hmn1]; decide) | exact zc35 (by rw [hmn1]; rfl) | exact absurd (by rw [hmn1]; rfl) zc35) | (exfalso; simp_all; done)
      · intro zc11
        with_reducible first | have ze11 := Int32.not_lt.mp zc11 | have ze11 := zc11
        refine hB bX10_plan_14 _ _ _ _ _ _ _ kX10_plan_14 ?_
        dsimp only [bX10_plan_14, kx_wp, kx_step, kx_lI, kx_lL, kx_lA, kx_gl, kx_pI, kx_pL, kx_pR, kx_pA, kx_pV, kx_s1, kx_s2, kx_sl, kx_pre, kx_c2, kx_pl, kx_cmp, kx_oF, kx_eqN, kx_nil, kx_c1, kx_ft, kx_aI, kx_aL, kx_aR, kx_ln, Nat.reduceAdd, Option.toList, List.cons_append, List.nil_append, cf10_13, cf10_6]
        repeat (simp only [h64, h64s, h81, ewh, ks_eq, ks_ss]; try dsimp only [kx_wp, kx_step, kx_lI, kx_lL, kx_lA, kx_gl, kx_pI, kx_pL, kx_pR, kx_pA, kx_pV, kx_s1, kx_s2, kx_sl, kx_pre, kx_c2, kx_pl, kx_cmp, kx_oF, kx_eqN, kx_nil, kx_c1, kx_ft, kx_aI, kx_aL, kx_aR, kx_ln, Nat.reduceAdd, Option.toList, List.cons_append, List.nil_append, cf10_13, cf10_6])
        repeat' apply And.intro
        all_goals try (first | with_reducible assumption | (with_reducible refine ck_nzI ?_; simp; done) | (with_reducible refine ck_nzL ?_; simp; done) | (with_reducible refine vp_in_nI ?_ ?_ <;> first | omega | decide) | (with_reducible refine Nat.le_of_ble_eq_true ?_; rfl) | omega | exact Or.inl trivial | exact Or.inr trivial | exact Or.inl rfl | exact Or.inr rfl)
        · intro zc17
          first | exact absurd rfl zc17 | exact absurd zc17 (by decide) | exact absurd (by decide) zc17 | (exfalso; first | exact absurd zc6 (by decide) | exact absurd ((nI_ltI (a := days) (b := 1) (by omega) (by omega)).mp zc11) (by omega) | exact absurd ((nI_ltI (a := 10) (b := days) (by omega) (by omega)).mp zc17) (by omega) | exact absurd zc40 (by decide) | exact absurd ((nI_ltI (a := wh + 1) (b := 0) (by omega) (by omega)).mp zc40) (by omega) | exact absurd ((nI_ltI (a := days) (b := wh + 1) (by omega) (by omega)).mp zc46) (by omega) | exact absurd ((nI_ltI (a := days) (b := 0) (by omega) (by omega)).mp zc46) (by omega) | exact zc73 rfl | exact absurd zc73 (by decide) | exact absurd ((nI_eq (a := wh + 1) (b := 0) (by omega) (by omega)).mp (Decidable.not_not.mp zc73)) (by omega) | exact zc30 hmn1 | exact absurd zc30 (by rw [hmn1]; decide) | exact absurd zc35 (by rw [hmn1]; decide) | exact absurd zc30 (by rw [hmn1]; decide) | exact zc35 (by rw [hmn1]; rfl) | exact absurd (by rw [hmn1]; rfl) zc35) | (exfalso; simp_all; done)
        · intro zc17
          with_reducible first | have ze17 := Int32.not_lt.mp zc17 | have ze17 := zc17
          refine hB bX10_plan_20 _ _ _ _ _ _ _ kX10_plan_20 ?_
          dsimp only [bX10_plan_20, kx_wp, kx_step, kx_lI, kx_lL, kx_lA, kx_gl, kx_pI, kx_pL, kx_pR, kx_pA, kx_pV, kx_s1, kx_s2, kx_sl, kx_pre, kx_c2, kx_pl, kx_cmp, kx_oF, kx_eqN, kx_nil, kx_c1, kx_ft, kx_aI, kx_aL, kx_aR, kx_ln, Nat.reduceAdd, Option.toList, List.cons_append, List.nil_append, cf10_13, cf10_6]
          repeat (simp only [h64, h64s, h81, ewh, ks_eq, ks_ss]; try dsimp only [kx_wp, kx_step, kx_lI, kx_lL, kx_lA, kx_gl, kx_pI, kx_pL, kx_pR, kx_pA, kx_pV, kx_s1, kx_s2, kx_sl, kx_pre, kx_c2, kx_pl, kx_cmp, kx_oF, kx_eqN, kx_nil, kx_c1, kx_ft, kx_aI, kx_aL, kx_aR, kx_ln, Nat.reduceAdd, Option.toList, List.cons_append, List.nil_append, cf10_13, cf10_6])
          repeat' apply And.intro
          all_goals try (first | with_reducible assumption | (with_reducible refine ck_nzI ?_; simp; done) | (with_reducible refine ck_nzL ?_; simp; done) | (with_reducible refine vp_in_nI ?_ ?_ <;> first | omega | decide) | (with_reducible refine Nat.le_of_ble_eq_true ?_; rfl) | omega | exact Or.inl trivial | exact Or.inr trivial | exact Or.inl rfl | exact Or.inr rfl)
          refine hC.2.1 95 _ _ _ _ _ _ _ _ _ _ _ _ _ _ _ _ _ lX10_95 (ct_X10_need l G (b := 1) (by decide)) rfl rfl (Nat.le_of_ble_eq_true rfl) (by first | decide | omega) (by decide) (by omega) (by omega) dX10_plan_25 ?_
          refine hB bX10_plan_28 _ _ _ _ _ _ _ kX10_plan_28 ?_
          dsimp only [bX10_plan_28, kx_wp, kx_step, kx_lI, kx_lL, kx_lA, kx_gl, kx_pI, kx_pL, kx_pR, kx_pA, kx_pV, kx_s1, kx_s2, kx_sl, kx_pre, kx_c2, kx_pl, kx_cmp, kx_oF, kx_eqN, kx_nil, kx_c1, kx_ft, kx_aI, kx_aL, kx_aR, kx_ln, Nat.reduceAdd, Option.toList, List.cons_append, List.nil_append, cf10_13, cf10_6]
          repeat (simp only [h64, h64s, h81, ewh, ks_eq, ks_ss]; try dsimp only [kx_wp, kx_step, kx_lI, kx_lL, kx_lA, kx_gl, kx_pI, kx_pL, kx_pR, kx_pA, kx_pV, kx_s1, kx_s2, kx_sl, kx_pre, kx_c2, kx_pl, kx_cmp, kx_oF, kx_eqN, kx_nil, kx_c1, kx_ft, kx_aI, kx_aL, kx_aR, kx_ln, Nat.reduceAdd, Option.toList, List.cons_append, List.nil_append, cf10_13, cf10_6])
          repeat' apply And.intro
          all_goals try (first | with_reducible assumption | (with_reducible refine ck_nzI ?_; simp; done) | (with_reducible refine ck_nzL ?_; simp; done) | (with_reducible refine vp_in_nI ?_ ?_ <;> first | omega | decide) | (with_reducible refine Nat.le_of_ble_eq_true ?_; rfl) | omega | exact Or.inl trivial | exact Or.inr trivial | exact Or.inl rfl | exact Or.inr rfl)
          · intro zc30
            have ze30 := zc30
            refine hB bX10_plan_38 _ _ _ _ _ _ _ kX10_plan_38 ?_
            dsimp only [bX10_plan_38, kx_wp, kx_step, kx_lI, kx_lL, kx_lA, kx_gl, kx_pI, kx_pL, kx_pR, kx_pA, kx_pV, kx_s1, kx_s2, kx_sl, kx_pre, kx_c2, kx_pl, kx_cmp, kx_oF, kx_eqN, kx_nil, kx_c1, kx_ft, kx_aI, kx_aL, kx_aR, kx_ln, Nat.reduceAdd, Option.toList, List.cons_append, List.nil_append, cf10_13, cf10_6]
            repeat (simp only [h64, h64s, h81, ewh, ks_eq, ks_ss]; try dsimp only [kx_wp, kx_step, kx_lI, kx_lL, kx_lA, kx_gl, kx_pI, kx_pL, kx_pR, kx_pA, kx_pV, kx_s1, kx_s2, kx_sl, kx_pre, kx_c2, kx_pl, kx_cmp, kx_oF, kx_eqN, kx_nil, kx_c1, kx_ft, kx_aI, kx_aL, kx_aR, kx_ln, Nat.reduceAdd, Option.toList, List.cons_append, List.nil_append, cf10_13, cf10_6])
            repeat' apply And.intro
            all_goals try (first | with_reducible assumption | (with_reducible refine ck_nzI ?_; simp; done) | (with_reducible refine ck_nzL ?_; simp; done) | (with_reducible refine vp_in_nI ?_ ?_ <;> first | omega | decide) | (with_reducible refine Nat.le_of_ble_eq_true ?_; rfl) | omega | exact Or.inl trivial | exact Or.inr trivial | exact Or.inl rfl | exact Or.inr rfl)
            · intro zc40
              first | exact absurd rfl zc40 | exact absurd zc40 (by decide) | exact absurd (by decide) zc40 | (exfalso; first | exact absurd zc6 (by decide) | exact absurd ((nI_ltI (a := days) (b := 1) (by omega) (by omega)).mp zc11) (by omega) | exact absurd ((nI_ltI (a := 10) (b := days) (by omega) (by omega)).mp zc17) (by omega) | exact absurd zc40 (by decide) | exact absurd ((nI_ltI (a := wh + 1) (b := 0) (by omega) (by omega)).mp zc40) (by omega) | exact absurd ((nI_ltI (a := days) (b := wh + 1) (by omega) (by omega)).mp zc46) (by omega) | exact absurd ((nI_ltI (a := days) (b := 0) (by omega) (by omega)).mp zc46) (by omega) | exact zc73 rfl | exact absurd zc73 (by decide) | exact absurd ((nI_eq (a := wh + 1) (b := 0) (by omega) (by omega)).mp (Decidable.not_not.mp zc73)) (by omega) | exact zc30 hmn1 | exact absurd zc30 (by rw [hmn1]; decide) | exact absurd zc35 (by rw [hmn1]; decide) | exact absurd zc30 (by rw [hmn1]; decide) | exact zc35 (by rw [hmn1]; rfl) | exact absurd (by rw [hmn1]; rfl) zc35) | (exfalso; simp_all; done)
            · intro zc40
              with_reducible first | have ze40 := Int32.not_lt.mp zc40 | have ze40 := zc40
              refine hB bX10_plan_43 _ _ _ _ _ _ _ kX10_plan_43 ?_
              dsimp only [bX10_plan_43, kx_wp, kx_step, kx_lI, kx_lL, kx_lA, kx_gl, kx_pI, kx_pL, kx_pR, kx_pA, kx_pV, kx_s1, kx_s2, kx_sl, kx_pre, kx_c2, kx_pl, kx_cmp, kx_oF, kx_eqN, kx_nil, kx_c1, kx_ft, kx_aI, kx_aL, kx_aR, kx_ln, Nat.reduceAdd, Option.toList, List.cons_append, List.nil_append, cf10_13, cf10_6]
              repeat (simp only [h64, h64s, h81, ewh, ks_eq, ks_ss]; try dsimp only [kx_wp, kx_step, kx_lI, kx_lL, kx_lA, kx_gl, kx_pI, kx_pL, kx_pR, kx_pA, kx_pV, kx_s1, kx_s2, kx_sl, kx_pre, kx_c2, kx_pl, kx_cmp, kx_oF, kx_eqN, kx_nil, kx_c1, kx_ft, kx_aI, kx_aL, kx_aR, kx_ln, Nat.reduceAdd, Option.toList, List.cons_append, List.nil_append, cf10_13, cf10_6])
              repeat' apply And.intro
              all_goals try (first | with_reducible assumption | (with_reducible refine ck_nzI ?_; simp; done) | (with_reducible refine ck_nzL ?_; simp; done) | (with_reducible refine vp_in_nI ?_ ?_ <;> first | omega | decide) | (with_reducible refine Nat.le_of_ble_eq_true ?_; rfl) | omega | exact Or.inl trivial | exact Or.inr trivial | exact Or.inl rfl | exact Or.inr rfl)
              · intro zc46
                first | exact absurd rfl zc46 | exact absurd zc46 (by decide) | exact absurd (by decide) zc46 | (exfalso; first | exact absurd zc6 (by decide) | exact absurd ((nI_ltI (a := days) (b := 1) (by omega) (by omega)).mp zc11) (by omega) | exact absurd ((nI_ltI (a := 10) (b := days) (by omega) (by omega)).mp zc17) (by omega) | exact absurd zc40 (by decide) | exact absurd ((nI_ltI (a := wh + 1) (b := 0) (by omega) (by omega)).mp zc40) (by omega) | exact absurd ((nI_ltI (a := days) (b := wh + 1) (by omega) (by omega)).mp zc46) (by omega) | exact absurd ((nI_ltI (a := days) (b := 0) (by omega) (by omega)).mp zc46) (by omega) | exact zc73 rfl | exact absurd zc73 (by decide) | exact absurd ((nI_eq (a := wh + 1) (b := 0) (by omega) (by omega)).mp (Decidable.not_not.mp zc73)) (by omega) | exact zc30 hmn1 | exact absurd zc30 (by rw [hmn1]; decide) | exact absurd zc35 (by rw [hmn1]; decide) | exact absurd zc30 (by rw [hmn1]; decide) | exact zc35 (by rw [hmn1]; rfl) | exact absurd (by rw [hmn1]; rfl) zc35) | (exfalso; simp_all; done)
              · intro zc46
                with_reducible first | have ze46 := Int32.not_lt.mp zc46 | have ze46 := zc46
                refine hB bX10_plan_49 _ _ _ _ _ _ _ kX10_plan_49 ?_
                dsimp only [bX10_plan_49, kx_wp, kx_step, kx_lI, kx_lL, kx_lA, kx_gl, kx_pI, kx_pL, kx_pR, kx_pA, kx_pV, kx_s1, kx_s2, kx_sl, kx_pre, kx_c2, kx_pl, kx_cmp, kx_oF, kx_eqN, kx_nil, kx_c1, kx_ft, kx_aI, kx_aL, kx_aR, kx_ln, Nat.reduceAdd, Option.toList, List.cons_append, List.nil_append, cf10_13, cf10_6]
                repeat (simp only [h64, h64s, h81, ewh, ks_eq, ks_ss]; try dsimp only [kx_wp, kx_step, kx_lI, kx_lL, kx_lA, kx_gl, kx_pI, kx_pL, kx_pR, kx_pA, kx_pV, kx_s1, kx_s2, kx_sl, kx_pre, kx_c2, kx_pl, kx_cmp, kx_oF, kx_eqN, kx_nil, kx_c1, kx_ft, kx_aI, kx_aL, kx_aR, kx_ln, Nat.reduceAdd, Option.toList, List.cons_append, List.nil_append, cf10_13, cf10_6])
                repeat' apply And.intro
                all_goals try (first | with_reducible assumption | (with_reducible refine ck_nzI ?_; simp; done) | (with_reducible refine ck_nzL ?_; simp; done) | (with_reducible refine vp_in_nI ?_ ?_ <;> first | omega | decide) | (with_reducible refine Nat.le_of_ble_eq_true ?_; rfl) | omega | exact Or.inl trivial | exact Or.inr trivial | exact Or.inl rfl | exact Or.inr rfl)
                refine hC.2.1 95 _ _ _ _ _ _ _ _ _ _ _ _ _ _ _ _ _ lX10_95 (ct_X10_need l G (b := 1) (by decide)) rfl rfl (Nat.le_of_ble_eq_true rfl) (by first | decide | omega) (by decide) (by omega) (by omega) dX10_plan_54 ?_
                refine hB bX10_plan_57 _ _ _ _ _ _ _ kX10_plan_57 ?_
                dsimp only [bX10_plan_57, kx_wp, kx_step, kx_lI, kx_lL, kx_lA, kx_gl, kx_pI, kx_pL, kx_pR, kx_pA, kx_pV, kx_s1, kx_s2, kx_sl, kx_pre, kx_c2, kx_pl, kx_cmp, kx_oF, kx_eqN, kx_nil, kx_c1, kx_ft, kx_aI, kx_aL, kx_aR, kx_ln, Nat.reduceAdd, Option.toList, List.cons_append, List.nil_append, cf10_13, cf10_6]
                repeat (simp only [h64, h64s, h81, ewh, ks_eq, ks_ss]; try dsimp only [kx_wp, kx_step, kx_lI, kx_lL, kx_lA, kx_gl, kx_pI, kx_pL, kx_pR, kx_pA, kx_pV, kx_s1, kx_s2, kx_sl, kx_pre, kx_c2, kx_pl, kx_cmp, kx_oF, kx_eqN, kx_nil, kx_c1, kx_ft, kx_aI, kx_aL, kx_aR, kx_ln, Nat.reduceAdd, Option.toList, List.cons_append, List.nil_append, cf10_13, cf10_6])
                repeat' apply And.intro
                all_goals try (first | with_reducible assumption | (with_reducible refine ck_nzI ?_; simp; done) | (with_reducible refine ck_nzL ?_; simp; done) | (with_reducible refine vp_in_nI ?_ ?_ <;> first | omega | decide) | (with_reducible refine Nat.le_of_ble_eq_true ?_; rfl) | omega | exact Or.inl trivial | exact Or.inr trivial | exact Or.inl rfl | exact Or.inr rfl)
                refine hC.1 281 _ _ _ _ _ _ _ 4 _ _ _ _ _ _ _ _ _ _ _ _ lX10_281 (hb9) ⟨by decide, rfl⟩ (h81) rfl rfl (Nat.le_of_ble_eq_true rfl) (by first | decide | omega) (by decide) (by omega) (by omega) dX10_plan_68 ?_
                exact h71
          · intro zc30
            first | exact absurd rfl zc30 | exact absurd zc30 (by decide) | exact absurd (by decide) zc30 | (exfalso; first | exact absurd zc6 (by decide) | exact absurd ((nI_ltI (a := days) (b := 1) (by omega) (by omega)).mp zc11) (by omega) | exact absurd ((nI_ltI (a := 10) (b := days) (by omega) (by omega)).mp zc17) (by omega) | exact absurd zc40 (by decide) | exact absurd ((nI_ltI (a := wh + 1) (b := 0) (by omega) (by omega)).mp zc40) (by omega) | exact absurd ((nI_ltI (a := days) (b := wh + 1) (by omega) (by omega)).mp zc46) (by omega) | exact absurd ((nI_ltI (a := days) (b := 0) (by omega) (by omega)).mp zc46) (by omega) | exact zc73 rfl | exact absurd zc73 (by decide) | exact absurd ((nI_eq (a := wh + 1) (b := 0) (by omega) (by omega)).mp (Decidable.not_not.mp zc73)) (by omega) | exact zc30 hmn1 | exact absurd zc30 (by rw [hmn1]; decide) | exact absurd zc35 (by rw [hmn1]; decide) | exact absurd zc30 (by rw [hmn1]; decide) | exact zc35 (by rw [hmn1]; rfl) | exact absurd (by rw [hmn1]; rfl) zc35) | (exfalso; simp_all; done)
  · refine hB bX10_plan_0 _ _ _ _ _ _ _ kX10_plan_0 ?_
    dsimp only [bX10_plan_0, kx_wp, kx_step, kx_lI, kx_lL, kx_lA, kx_gl, kx_pI, kx_pL, kx_pR, kx_pA, kx_pV, kx_s1, kx_s2, kx_sl, kx_pre, kx_c2, kx_pl, kx_cmp, kx_oF, kx_eqN, kx_nil, kx_c1, kx_ft, kx_aI, kx_aL, kx_aR, kx_ln, Nat.reduceAdd, Option.toList, List.cons_append, List.nil_append, cf10_13, cf10_6]
    repeat (simp only [h64, h64s, h81, ewh, ks_eq, ks_ss]; try dsimp only [kx_wp, kx_step, kx_lI, kx_lL, kx_lA, kx_gl, kx_pI, kx_pL, kx_pR, kx_pA, kx_pV, kx_s1, kx_s2, kx_sl, kx_pre, kx_c2, kx_pl, kx_cmp, kx_oF, kx_eqN, kx_nil, kx_c1, kx_ft, kx_aI, kx_aL, kx_aR, kx_ln, Nat.reduceAdd, Option.toList, List.cons_append, List.nil_append, cf10_13, cf10_6])
    repeat' apply And.intro
    all_goals try (first | with_reducible assumption | (with_reducible refine ck_nzI ?_; simp; done) | (with_reducible refine ck_nzL ?_; simp; done) | (with_reducible refine vp_in_nI ?_ ?_ <;> first | omega | decide) | (with_reducible refine Nat.le_of_ble_eq_true ?_; rfl) | omega | exact Or.inl trivial | exact Or.inr trivial | exact Or.inl rfl | exact Or.inr rfl)
    refine hC.1 261 _ _ _ _ _ _ _ 10 _ _ _ _ _ _ _ _ _ _ _ _ lX10_261 (ct_X10_areClocks l G h64) ⟨by decide, rfl⟩ (h64) rfl rfl (Nat.le_of_ble_eq_true rfl) (by first | decide | omega) (by decide) (by omega) (by omega) dX10_plan_3 ?_
    rw [hac]
    refine hB bX10_plan_6 _ _ _ _ _ _ _ kX10_plan_6 ?_
    dsimp only [bX10_plan_6, kx_wp, kx_step, kx_lI, kx_lL, kx_lA, kx_gl, kx_pI, kx_pL, kx_pR, kx_pA, kx_pV, kx_s1, kx_s2, kx_sl, kx_pre, kx_c2, kx_pl, kx_cmp, kx_oF, kx_eqN, kx_nil, kx_c1, kx_ft, kx_aI, kx_aL, kx_aR, kx_ln, Nat.reduceAdd, Option.toList, List.cons_append, List.nil_append, cf10_13, cf10_6]
    repeat (simp only [h64, h64s, h81, ewh, ks_eq, ks_ss]; try dsimp only [kx_wp, kx_step, kx_lI, kx_lL, kx_lA, kx_gl, kx_pI, kx_pL, kx_pR, kx_pA, kx_pV, kx_s1, kx_s2, kx_sl, kx_pre, kx_c2, kx_pl, kx_cmp, kx_oF, kx_eqN, kx_nil, kx_c1, kx_ft, kx_aI, kx_aL, kx_aR, kx_ln, Nat.reduceAdd, Option.toList, List.cons_append, List.nil_append, cf10_13, cf10_6])
    repeat' apply And.intro
    all_goals try (first | with_reducible assumption | (with_reducible refine ck_nzI ?_; simp; done) | (with_reducible refine ck_nzL ?_; simp; done) | (with_reducible refine vp_in_nI ?_ ?_ <;> first | omega | decide) | (with_reducible refine Nat.le_of_ble_eq_true ?_; rfl) | omega | exact Or.inl trivial | exact Or.inr trivial | exact Or.inl rfl | exact Or.inr rfl)
    · intro zc6
      first | exact absurd rfl zc6 | exact absurd zc6 (by decide) | exact absurd (by decide) zc6 | (exfalso; first | exact absurd zc6 (by decide) | exact absurd ((nI_ltI (a := days) (b := 1) (by omega) (by omega)).mp zc11) (by omega) | exact absurd ((nI_ltI (a := 10) (b := days) (by omega) (by omega)).mp zc17) (by omega) | exact absurd zc40 (by decide) | exact absurd ((nI_ltI (a := wh + 1) (b := 0) (by omega) (by omega)).mp zc40) (by omega) | exact absurd ((nI_ltI (a := days) (b := wh + 1) (by omega) (by omega)).mp zc46) (by omega) | exact absurd ((nI_ltI (a := days) (b := 0) (by omega) (by omega)).mp zc46) (by omega) | exact zc73 rfl | exact absurd zc73 (by decide) | exact absurd ((nI_eq (a := wh + 1) (b := 0) (by omega) (by omega)).mp (Decidable.not_not.mp zc73)) (by omega) | exact zc30 hmn1 | exact absurd zc30 (by rw [hmn1]; decide) | exact absurd zc35 (by rw [hmn1]; decide) | exact absurd zc30 (by rw [hmn1]; decide) | exact zc35 (by rw [hmn1]; rfl) | exact absurd (by rw [hmn1]; rfl) zc35) | (exfalso; simp_all; done)
    · intro zc6
      have ze6 := zc6
      refine hB bX10_plan_9 _ _ _ _ _ _ _ kX10_plan_9 ?_
      dsimp only [bX10_plan_9, kx_wp, kx_step, kx_lI, kx_lL, kx_lA, kx_gl, kx_pI, kx_pL, kx_pR, kx_pA, kx_pV, kx_s1, kx_s2, kx_sl, kx_pre, kx_c2, kx_pl, kx_cmp, kx_oF, kx_eqN, kx_nil, kx_c1, kx_ft, kx_aI, kx_aL, kx_aR, kx_ln, Nat.reduceAdd, Option.toList, List.cons_append, List.nil_append, cf10_13, cf10_6]
      repeat (simp only [h64, h64s, h81, ewh, ks_eq, ks_ss]; try dsimp only [kx_wp, kx_step, kx_lI, kx_lL, kx_lA, kx_gl, kx_pI, kx_pL, kx_pR, kx_pA, kx_pV, kx_s1, kx_s2, kx_sl, kx_pre, kx_c2, kx_pl, kx_cmp, kx_oF, kx_eqN, kx_nil, kx_c1, kx_ft, kx_aI, kx_aL, kx_aR, kx_ln, Nat.reduceAdd, Option.toList, List.cons_append, List.nil_append, cf10_13, cf10_6])
      repeat' apply And.intro
      all_goals try (first | with_reducible assumption | (with_reducible refine ck_nzI ?_; simp; done) | (with_reducible refine ck_nzL ?_; simp; done) | (with_reducible refine vp_in_nI ?_ ?_ <;> first | omega | decide) | (with_reducible refine Nat.le_of_ble_eq_true ?_; rfl) | omega | exact Or.inl trivial | exact Or.inr trivial | exact Or.inl rfl | exact Or.inr rfl)
      · intro zc11
        first | exact absurd rfl zc11 | exact absurd zc11 (by decide) | exact absurd (by decide) zc11 | (exfalso; first | exact absurd zc6 (by decide) | exact absurd ((nI_ltI (a := days) (b := 1) (by omega) (by omega)).mp zc11) (by omega) | exact absurd ((nI_ltI (a := 10) (b := days) (by omega) (by omega)).mp zc17) (by omega) | exact absurd zc40 (by decide) | exact absurd ((nI_ltI (a := wh + 1) (b := 0) (by omega) (by omega)).mp zc40) (by omega) | exact absurd ((nI_ltI (a := days) (b := wh + 1) (by omega) (by omega)).mp zc46) (by omega) | exact absurd ((nI_ltI (a := days) (b := 0) (by omega) (by omega)).mp zc46) (by omega) | exact zc73 rfl | exact absurd zc73 (by decide) | exact absurd ((nI_eq (a := wh + 1) (b := 0) (by omega) (by omega)).mp (Decidable.not_not.mp zc73)) (by omega) | exact zc30 hmn1 | exact absurd zc30 (by rw [hmn1]; decide) | exact absurd zc35 (by rw [hmn1]; decide) | exact absurd zc30 (by rw [hmn1]; decide) | exact zc35 (by rw [hmn1]; rfl) | exact absurd (by rw [hmn1]; rfl) zc35) | (exfalso; simp_all; done)
      · intro zc11
        with_reducible first | have ze11 := Int32.not_lt.mp zc11 | have ze11 := zc11
        refine hB bX10_plan_14 _ _ _ _ _ _ _ kX10_plan_14 ?_
        dsimp only [bX10_plan_14, kx_wp, kx_step, kx_lI, kx_lL, kx_lA, kx_gl, kx_pI, kx_pL, kx_pR, kx_pA, kx_pV, kx_s1, kx_s2, kx_sl, kx_pre, kx_c2, kx_pl, kx_cmp, kx_oF, kx_eqN, kx_nil, kx_c1, kx_ft, kx_aI, kx_aL, kx_aR, kx_ln, Nat.reduceAdd, Option.toList, List.cons_append, List.nil_append, cf10_13, cf10_6]
        repeat (simp only [h64, h64s, h81, ewh, ks_eq, ks_ss]; try dsimp only [kx_wp, kx_step, kx_lI, kx_lL, kx_lA, kx_gl, kx_pI, kx_pL, kx_pR, kx_pA, kx_pV, kx_s1, kx_s2, kx_sl, kx_pre, kx_c2, kx_pl, kx_cmp, kx_oF, kx_eqN, kx_nil, kx_c1, kx_ft, kx_aI, kx_aL, kx_aR, kx_ln, Nat.reduceAdd, Option.toList, List.cons_append, List.nil_append, cf10_13, cf10_6])
        repeat' apply And.intro
        all_goals try (first | with_reducible assumption | (with_reducible refine ck_nzI ?_; simp; done) | (with_reducible refine ck_nzL ?_; simp; done) | (with_reducible refine vp_in_nI ?_ ?_ <;> first | omega | decide) | (with_reducible refine Nat.le_of_ble_eq_true ?_; rfl) | omega | exact Or.inl trivial | exact Or.inr trivial | exact Or.inl rfl | exact Or.inr rfl)
        · intro zc17
          first | exact absurd rfl zc17 | exact absurd zc17 (by decide) | exact absurd (by decide) zc17 | (exfalso; first | exact absurd zc6 (by decide) | exact absurd ((nI_ltI (a := days) (b := 1) (by omega) (by omega)).mp zc11) (by omega) | exact absurd ((nI_ltI (a := 10) (b := days) (by omega) (by omega)).mp zc17) (by omega) | exact absurd zc40 (by decide) | exact absurd ((nI_ltI (a := wh + 1) (b := 0) (by omega) (by omega)).mp zc40) (by omega) | exact absurd ((nI_ltI (a := days) (b := wh + 1) (by omega) (by omega)).mp zc46) (by omega) | exact absurd ((nI_ltI (a := days) (b := 0) (by omega) (by omega)).mp zc46) (by omega) | exact zc73 rfl | exact absurd zc73 (by decide) | exact absurd ((nI_eq (a := wh + 1) (b := 0) (by omega) (by omega)).mp (Decidable.not_not.mp zc73)) (by omega) | exact zc30 hmn1 | exact absurd zc30 (by rw [hmn1]; decide) | exact absurd zc35 (by rw [hmn1]; decide) | exact absurd zc30 (by rw [hmn1]; decide) | exact zc35 (by rw [hmn1]; rfl) | exact absurd (by rw [hmn1]; rfl) zc35) | (exfalso; simp_all; done)
        · intro zc17
          with_reducible first | have ze17 := Int32.not_lt.mp zc17 | have ze17 := zc17
          refine hB bX10_plan_20 _ _ _ _ _ _ _ kX10_plan_20 ?_
          dsimp only [bX10_plan_20, kx_wp, kx_step, kx_lI, kx_lL, kx_lA, kx_gl, kx_pI, kx_pL, kx_pR, kx_pA, kx_pV, kx_s1, kx_s2, kx_sl, kx_pre, kx_c2, kx_pl, kx_cmp, kx_oF, kx_eqN, kx_nil, kx_c1, kx_ft, kx_aI, kx_aL, kx_aR, kx_ln, Nat.reduceAdd, Option.toList, List.cons_append, List.nil_append, cf10_13, cf10_6]
          repeat (simp only [h64, h64s, h81, ewh, ks_eq, ks_ss]; try dsimp only [kx_wp, kx_step, kx_lI, kx_lL, kx_lA, kx_gl, kx_pI, kx_pL, kx_pR, kx_pA, kx_pV, kx_s1, kx_s2, kx_sl, kx_pre, kx_c2, kx_pl, kx_cmp, kx_oF, kx_eqN, kx_nil, kx_c1, kx_ft, kx_aI, kx_aL, kx_aR, kx_ln, Nat.reduceAdd, Option.toList, List.cons_append, List.nil_append, cf10_13, cf10_6])
          repeat' apply And.intro
          all_goals try (first | with_reducible assumption | (with_reducible refine ck_nzI ?_; simp; done) | (with_reducible refine ck_nzL ?_; simp; done) | (with_reducible refine vp_in_nI ?_ ?_ <;> first | omega | decide) | (with_reducible refine Nat.le_of_ble_eq_true ?_; rfl) | omega | exact Or.inl trivial | exact Or.inr trivial | exact Or.inl rfl | exact Or.inr rfl)
          refine hC.2.1 95 _ _ _ _ _ _ _ _ _ _ _ _ _ _ _ _ _ lX10_95 (ct_X10_need l G (b := 1) (by decide)) rfl rfl (Nat.le_of_ble_eq_true rfl) (by first | decide | omega) (by decide) (by omega) (by omega) dX10_plan_25 ?_
          refine hB bX10_plan_28 _ _ _ _ _ _ _ kX10_plan_28 ?_
          dsimp only [bX10_plan_28, kx_wp, kx_step, kx_lI, kx_lL, kx_lA, kx_gl, kx_pI, kx_pL, kx_pR, kx_pA, kx_pV, kx_s1, kx_s2, kx_sl, kx_pre, kx_c2, kx_pl, kx_cmp, kx_oF, kx_eqN, kx_nil, kx_c1, kx_ft, kx_aI, kx_aL, kx_aR, kx_ln, Nat.reduceAdd, Option.toList, List.cons_append, List.nil_append, cf10_13, cf10_6]
          repeat (simp only [h64, h64s, h81, ewh, ks_eq, ks_ss]; try dsimp only [kx_wp, kx_step, kx_lI, kx_lL, kx_lA, kx_gl, kx_pI, kx_pL, kx_pR, kx_pA, kx_pV, kx_s1, kx_s2, kx_sl, kx_pre, kx_c2, kx_pl, kx_cmp, kx_oF, kx_eqN, kx_nil, kx_c1, kx_ft, kx_aI, kx_aL, kx_aR, kx_ln, Nat.reduceAdd, Option.toList, List.cons_append, List.nil_append, cf10_13, cf10_6])
          repeat' apply And.intro
          all_goals try (first | with_reducible assumption | (with_reducible refine ck_nzI ?_; simp; done) | (with_reducible refine ck_nzL ?_; simp; done) | (with_reducible refine vp_in_nI ?_ ?_ <;> first | omega | decide) | (with_reducible refine Nat.le_of_ble_eq_true ?_; rfl) | omega | exact Or.inl trivial | exact Or.inr trivial | exact Or.inl rfl | exact Or.inr rfl)
          · intro zc30
            first | exact absurd rfl zc30 | exact absurd zc30 (by decide) | exact absurd (by decide) zc30 | (exfalso; first | exact absurd zc6 (by decide) | exact absurd ((nI_ltI (a := days) (b := 1) (by omega) (by omega)).mp zc11) (by omega) | exact absurd ((nI_ltI (a := 10) (b := days) (by omega) (by omega)).mp zc17) (by omega) | exact absurd zc40 (by decide) | exact absurd ((nI_ltI (a := wh + 1) (b := 0) (by omega) (by omega)).mp zc40) (by omega) | exact absurd ((nI_ltI (a := days) (b := wh + 1) (by omega) (by omega)).mp zc46) (by omega) | exact absurd ((nI_ltI (a := days) (b := 0) (by omega) (by omega)).mp zc46) (by omega) | exact zc73 rfl | exact absurd zc73 (by decide) | exact absurd ((nI_eq (a := wh + 1) (b := 0) (by omega) (by omega)).mp (Decidable.not_not.mp zc73)) (by omega) | exact zc30 hmn1 | exact absurd zc30 (by rw [hmn1]; decide) | exact absurd zc35 (by rw [hmn1]; decide) | exact absurd zc30 (by rw [hmn1]; decide) | exact zc35 (by rw [hmn1]; rfl) | exact absurd (by rw [hmn1]; rfl) zc35) | (exfalso; simp_all; done)
          · intro zc30
            have ze30 := zc30
            refine hB bX10_plan_33 _ _ _ _ _ _ _ kX10_plan_33 ?_
            dsimp only [bX10_plan_33, kx_wp, kx_step, kx_lI, kx_lL, kx_lA, kx_gl, kx_pI, kx_pL, kx_pR, kx_pA, kx_pV, kx_s1, kx_s2, kx_sl, kx_pre, kx_c2, kx_pl, kx_cmp, kx_oF, kx_eqN, kx_nil, kx_c1, kx_ft, kx_aI, kx_aL, kx_aR, kx_ln, Nat.reduceAdd, Option.toList, List.cons_append, List.nil_append, cf10_13, cf10_6]
            repeat (simp only [h64, h64s, h81, ewh, ks_eq, ks_ss]; try dsimp only [kx_wp, kx_step, kx_lI, kx_lL, kx_lA, kx_gl, kx_pI, kx_pL, kx_pR, kx_pA, kx_pV, kx_s1, kx_s2, kx_sl, kx_pre, kx_c2, kx_pl, kx_cmp, kx_oF, kx_eqN, kx_nil, kx_c1, kx_ft, kx_aI, kx_aL, kx_aR, kx_ln, Nat.reduceAdd, Option.toList, List.cons_append, List.nil_append, cf10_13, cf10_6])
            repeat' apply And.intro
            all_goals try (first | with_reducible assumption | (with_reducible refine ck_nzI ?_; simp; done) | (with_reducible refine ck_nzL ?_; simp; done) | (with_reducible refine vp_in_nI ?_ ?_ <;> first | omega | decide) | (with_reducible refine Nat.le_of_ble_eq_true ?_; rfl) | omega | exact Or.inl trivial | exact Or.inr trivial | exact Or.inl rfl | exact Or.inr rfl)
            · intro zc35
              first | exact absurd rfl zc35 | exact absurd zc35 (by decide) | exact absurd (by decide) zc35 | (exfalso; first | exact absurd zc6 (by decide) | exact absurd ((nI_ltI (a := days) (b := 1) (by omega) (by omega)).mp zc11) (by omega) | exact absurd ((nI_ltI (a := 10) (b := days) (by omega) (by omega)).mp zc17) (by omega) | exact absurd zc40 (by decide) | exact absurd ((nI_ltI (a := wh + 1) (b := 0) (by omega) (by omega)).mp zc40) (by omega) | exact absurd ((nI_ltI (a := days) (b := wh + 1) (by omega) (by omega)).mp zc46) (by omega) | exact absurd ((nI_ltI (a := days) (b := 0) (by omega) (by omega)).mp zc46) (by omega) | exact zc73 rfl | exact absurd zc73 (by decide) | exact absurd ((nI_eq (a := wh + 1) (b := 0) (by omega) (by omega)).mp (Decidable.not_not.mp zc73)) (by omega) | exact zc30 hmn1 | exact absurd zc30 (by rw [hmn1]; decide) | exact absurd zc35 (by rw [hmn1]; decide) | exact absurd zc30 (by rw [hmn1]; decide) | exact zc35 (by rw [hmn1]; rfl) | exact absurd (by rw [hmn1]; rfl) zc35) | (exfalso; simp_all; done)
            · intro zc35
              with_reducible first | have ze35 := Decidable.not_not.mp zc35 | have ze35 := zc35
              refine hB bX10_plan_38 _ _ _ _ _ _ _ kX10_plan_38 ?_
              dsimp only [bX10_plan_38, kx_wp, kx_step, kx_lI, kx_lL, kx_lA, kx_gl, kx_pI, kx_pL, kx_pR, kx_pA, kx_pV, kx_s1, kx_s2, kx_sl, kx_pre, kx_c2, kx_pl, kx_cmp, kx_oF, kx_eqN, kx_nil, kx_c1, kx_ft, kx_aI, kx_aL, kx_aR, kx_ln, Nat.reduceAdd, Option.toList, List.cons_append, List.nil_append, cf10_13, cf10_6]
              repeat (simp only [h64, h64s, h81, ewh, ks_eq, ks_ss]; try dsimp only [kx_wp, kx_step, kx_lI, kx_lL, kx_lA, kx_gl, kx_pI, kx_pL, kx_pR, kx_pA, kx_pV, kx_s1, kx_s2, kx_sl, kx_pre, kx_c2, kx_pl, kx_cmp, kx_oF, kx_eqN, kx_nil, kx_c1, kx_ft, kx_aI, kx_aL, kx_aR, kx_ln, Nat.reduceAdd, Option.toList, List.cons_append, List.nil_append, cf10_13, cf10_6])
              repeat' apply And.intro
              all_goals try (first | with_reducible assumption | (with_reducible refine ck_nzI ?_; simp; done) | (with_reducible refine ck_nzL ?_; simp; done) | (with_reducible refine vp_in_nI ?_ ?_ <;> first | omega | decide) | (with_reducible refine Nat.le_of_ble_eq_true ?_; rfl) | omega | exact Or.inl trivial | exact Or.inr trivial | exact Or.inl rfl | exact Or.inr rfl)
              · intro zc40
                first | exact absurd rfl zc40 | exact absurd zc40 (by decide) | exact absurd (by decide) zc40 | (exfalso; first | exact absurd zc6 (by decide) | exact absurd ((nI_ltI (a := days) (b := 1) (by omega) (by omega)).mp zc11) (by omega) | exact absurd ((nI_ltI (a := 10) (b := days) (by omega) (by omega)).mp zc17) (by omega) | exact absurd zc40 (by decide) | exact absurd ((nI_ltI (a := wh + 1) (b := 0) (by omega) (by omega)).mp zc40) (by omega) | exact absurd ((nI_ltI (a := days) (b := wh + 1) (by omega) (by omega)).mp zc46) (by omega) | exact absurd ((nI_ltI (a := days) (b := 0) (by omega) (by omega)).mp zc46) (by omega) | exact zc73 rfl | exact absurd zc73 (by decide) | exact absurd ((nI_eq (a := wh + 1) (b := 0) (by omega) (by omega)).mp (Decidable.not_not.mp zc73)) (by omega) | exact zc30 hmn1 | exact absurd zc30 (by rw [hmn1]; decide) | exact absurd zc35 (by rw [hmn1]; decide) | exact absurd zc30 (by rw [hmn1]; decide) | exact zc35 (by rw [hmn1]; rfl) | exact absurd (by rw [hmn1]; rfl) zc35) | (exfalso; simp_all; done)
              · intro zc40
                with_reducible first | have ze40 := Int32.not_lt.mp zc40 | have ze40 := zc40
                refine hB bX10_plan_43 _ _ _ _ _ _ _ kX10_plan_43 ?_
                dsimp only [bX10_plan_43, kx_wp, kx_step, kx_lI, kx_lL, kx_lA, kx_gl, kx_pI, kx_pL, kx_pR, kx_pA, kx_pV, kx_s1, kx_s2, kx_sl, kx_pre, kx_c2, kx_pl, kx_cmp, kx_oF, kx_eqN, kx_nil, kx_c1, kx_ft, kx_aI, kx_aL, kx_aR, kx_ln, Nat.reduceAdd, Option.toList, List.cons_append, List.nil_append, cf10_13, cf10_6]
                repeat (simp only [h64, h64s, h81, ewh, ks_eq, ks_ss]; try dsimp only [kx_wp, kx_step, kx_lI, kx_lL, kx_lA, kx_gl, kx_pI, kx_pL, kx_pR, kx_pA, kx_pV, kx_s1, kx_s2, kx_sl, kx_pre, kx_c2, kx_pl, kx_cmp, kx_oF, kx_eqN, kx_nil, kx_c1, kx_ft, kx_aI, kx_aL, kx_aR, kx_ln, Nat.reduceAdd, Option.toList, List.cons_append, List.nil_append, cf10_13, cf10_6])
                repeat' apply And.intro
                all_goals try (first | with_reducible assumption | (with_reducible refine ck_nzI ?_; simp; done) | (with_reducible refine ck_nzL ?_; simp; done) | (with_reducible refine vp_in_nI ?_ ?_ <;> first | omega | decide) | (with_reducible refine Nat.le_of_ble_eq_true ?_; rfl) | omega | exact Or.inl trivial | exact Or.inr trivial | exact Or.inl rfl | exact Or.inr rfl)
                · intro zc46
                  first | exact absurd rfl zc46 | exact absurd zc46 (by decide) | exact absurd (by decide) zc46 | (exfalso; first | exact absurd zc6 (by decide) | exact absurd ((nI_ltI (a := days) (b := 1) (by omega) (by omega)).mp zc11) (by omega) | exact absurd ((nI_ltI (a := 10) (b := days) (by omega) (by omega)).mp zc17) (by omega) | exact absurd zc40 (by decide) | exact absurd ((nI_ltI (a := wh + 1) (b := 0) (by omega) (by omega)).mp zc40) (by omega) | exact absurd ((nI_ltI (a := days) (b := wh + 1) (by omega) (by omega)).mp zc46) (by omega) | exact absurd ((nI_ltI (a := days) (b := 0) (by omega) (by omega)).mp zc46) (by omega) | exact zc73 rfl | exact absurd zc73 (by decide) | exact absurd ((nI_eq (a := wh + 1) (b := 0) (by omega) (by omega)).mp (Decidable.not_not.mp zc73)) (by omega) | exact zc30 hmn1 | exact absurd zc30 (by rw [hmn1]; decide) | exact absurd zc35 (by rw [hmn1]; decide) | exact absurd zc30 (by rw [hmn1]; decide) | exact zc35 (by rw [hmn1]; rfl) | exact absurd (by rw [hmn1]; rfl) zc35) | (exfalso; simp_all; done)
                · intro zc46
                  with_reducible first | have ze46 := Int32.not_lt.mp zc46 | have ze46 := zc46
                  refine hB bX10_plan_49 _ _ _ _ _ _ _ kX10_plan_49 ?_
                  dsimp only [bX10_plan_49, kx_wp, kx_step, kx_lI, kx_lL, kx_lA, kx_gl, kx_pI, kx_pL, kx_pR, kx_pA, kx_pV, kx_s1, kx_s2, kx_sl, kx_pre, kx_c2, kx_pl, kx_cmp, kx_oF, kx_eqN, kx_nil, kx_c1, kx_ft, kx_aI, kx_aL, kx_aR, kx_ln, Nat.reduceAdd, Option.toList, List.cons_append, List.nil_append, cf10_13, cf10_6]
                  repeat (simp only [h64, h64s, h81, ewh, ks_eq, ks_ss]; try dsimp only [kx_wp, kx_step, kx_lI, kx_lL, kx_lA, kx_gl, kx_pI, kx_pL, kx_pR, kx_pA, kx_pV, kx_s1, kx_s2, kx_sl, kx_pre, kx_c2, kx_pl, kx_cmp, kx_oF, kx_eqN, kx_nil, kx_c1, kx_ft, kx_aI, kx_aL, kx_aR, kx_ln, Nat.reduceAdd, Option.toList, List.cons_append, List.nil_append, cf10_13, cf10_6])
                  repeat' apply And.intro
                  all_goals try (first | with_reducible assumption | (with_reducible refine ck_nzI ?_; simp; done) | (with_reducible refine ck_nzL ?_; simp; done) | (with_reducible refine vp_in_nI ?_ ?_ <;> first | omega | decide) | (with_reducible refine Nat.le_of_ble_eq_true ?_; rfl) | omega | exact Or.inl trivial | exact Or.inr trivial | exact Or.inl rfl | exact Or.inr rfl)
                  refine hC.2.1 95 _ _ _ _ _ _ _ _ _ _ _ _ _ _ _ _ _ lX10_95 (ct_X10_need l G (b := 1) (by decide)) rfl rfl (Nat.le_of_ble_eq_true rfl) (by first | decide | omega) (by decide) (by omega) (by omega) dX10_plan_54 ?_
                  refine hB bX10_plan_57 _ _ _ _ _ _ _ kX10_plan_57 ?_
                  dsimp only [bX10_plan_57, kx_wp, kx_step, kx_lI, kx_lL, kx_lA, kx_gl, kx_pI, kx_pL, kx_pR, kx_pA, kx_pV, kx_s1, kx_s2, kx_sl, kx_pre, kx_c2, kx_pl, kx_cmp, kx_oF, kx_eqN, kx_nil, kx_c1, kx_ft, kx_aI, kx_aL, kx_aR, kx_ln, Nat.reduceAdd, Option.toList, List.cons_append, List.nil_append, cf10_13, cf10_6]
                  repeat (simp only [h64, h64s, h81, ewh, ks_eq, ks_ss]; try dsimp only [kx_wp, kx_step, kx_lI, kx_lL, kx_lA, kx_gl, kx_pI, kx_pL, kx_pR, kx_pA, kx_pV, kx_s1, kx_s2, kx_sl, kx_pre, kx_c2, kx_pl, kx_cmp, kx_oF, kx_eqN, kx_nil, kx_c1, kx_ft, kx_aI, kx_aL, kx_aR, kx_ln, Nat.reduceAdd, Option.toList, List.cons_append, List.nil_append, cf10_13, cf10_6])
                  repeat' apply And.intro
                  all_goals try (first | with_reducible assumption | (with_reducible refine ck_nzI ?_; simp; done) | (with_reducible refine ck_nzL ?_; simp; done) | (with_reducible refine vp_in_nI ?_ ?_ <;> first | omega | decide) | (with_reducible refine Nat.le_of_ble_eq_true ?_; rfl) | omega | exact Or.inl trivial | exact Or.inr trivial | exact Or.inl rfl | exact Or.inr rfl)
                  refine hC.1 281 _ _ _ _ _ _ _ 4 _ _ _ _ _ _ _ _ _ _ _ _ lX10_281 (hb9) ⟨by decide, rfl⟩ (h81) rfl rfl (Nat.le_of_ble_eq_true rfl) (by first | decide | omega) (by decide) (by omega) (by omega) dX10_plan_68 ?_
                  exact h71

set_option maxRecDepth 100000 in
set_option maxHeartbeats 4000000 in
theorem ct_X10_plan_b (l : Launch) (G : kx_G) (hst : l.stackTraces = false) {P : kx_P} {sz : Nat} {sv : Value} {K : Nat → Int32} (h64 : P 64 = kO 10 (kf (cr10 sv) K)) {b dy mn w : Int32} (hq0 : cx_ac b (K 7) 4 = 0 ∨ cx_ac b (K 7) 4 = 1) (hb : ¬ (cx_ac b (K 7) 4 = 1 ∧ 1 ≤ dy ∧ dy ≤ 10))  : kx_X l G sX10_plan 7 [.ref 64, .int (b), .int (dy), .int (mn), .int (w)] P sz "java/lang/IllegalArgumentException" := by
  refine kx_mkx hst kx_tab kxLok_X10 [some (.ref 64), some (.int (b)), some (.int (dy)), some (.int (mn)), some (.int (w))] ⟨by decide, rfl, by decide⟩ rfl rfl (fun g hB hC hX hT => ?_)
  refine hB bX10_plan_0 _ _ _ _ _ _ _ kX10_plan_0 ?_
  dsimp only [bX10_plan_0, kx_wp, kx_step, kx_lI, kx_lL, kx_lA, kx_gl, kx_pI, kx_pL, kx_pR, kx_pA, kx_pV, kx_s1, kx_s2, kx_sl, kx_pre, kx_c2, kx_pl, kx_cmp, kx_oF, kx_eqN, kx_nil, kx_c1, kx_ft, kx_aI, kx_aL, kx_aR, kx_ln, Nat.reduceAdd, Option.toList, List.cons_append, List.nil_append, cf10_13, cf10_6]
  repeat (simp only [h64, ks_eq, ks_ss]; try dsimp only [kx_wp, kx_step, kx_lI, kx_lL, kx_lA, kx_gl, kx_pI, kx_pL, kx_pR, kx_pA, kx_pV, kx_s1, kx_s2, kx_sl, kx_pre, kx_c2, kx_pl, kx_cmp, kx_oF, kx_eqN, kx_nil, kx_c1, kx_ft, kx_aI, kx_aL, kx_aR, kx_ln, Nat.reduceAdd, Option.toList, List.cons_append, List.nil_append, cf10_13, cf10_6])
  repeat' apply And.intro
  all_goals try (first | with_reducible assumption | (with_reducible refine ck_nzI ?_; simp; done) | (with_reducible refine ck_nzL ?_; simp; done) | (with_reducible refine vp_in_nI ?_ ?_ <;> first | omega | decide) | (with_reducible refine Nat.le_of_ble_eq_true ?_; rfl) | omega | exact Or.inl trivial | exact Or.inr trivial | exact Or.inl rfl | exact Or.inr rfl)
  refine hC.1 261 _ _ _ _ _ _ _ 10 _ _ _ _ _ _ _ _ _ _ _ _ lX10_261 (ct_X10_areClocks l G h64) ⟨by decide, rfl⟩ (h64) rfl rfl (Nat.le_of_ble_eq_true rfl) (by first | decide | omega) (by decide) (by omega) (by omega) dX10_plan_3 ?_
  refine hB bX10_plan_6 _ _ _ _ _ _ _ kX10_plan_6 ?_
  dsimp only [bX10_plan_6, kx_wp, kx_step, kx_lI, kx_lL, kx_lA, kx_gl, kx_pI, kx_pL, kx_pR, kx_pA, kx_pV, kx_s1, kx_s2, kx_sl, kx_pre, kx_c2, kx_pl, kx_cmp, kx_oF, kx_eqN, kx_nil, kx_c1, kx_ft, kx_aI, kx_aL, kx_aR, kx_ln, Nat.reduceAdd, Option.toList, List.cons_append, List.nil_append, cf10_13, cf10_6]
  repeat (simp only [h64, ks_eq, ks_ss]; try dsimp only [kx_wp, kx_step, kx_lI, kx_lL, kx_lA, kx_gl, kx_pI, kx_pL, kx_pR, kx_pA, kx_pV, kx_s1, kx_s2, kx_sl, kx_pre, kx_c2, kx_pl, kx_cmp, kx_oF, kx_eqN, kx_nil, kx_c1, kx_ft, kx_aI, kx_aL, kx_aR, kx_ln, Nat.reduceAdd, Option.toList, List.cons_append, List.nil_append, cf10_13, cf10_6])
  repeat' apply And.intro
  all_goals try (first | with_reducible assumption | (with_reducible refine ck_nzI ?_; simp; done) | (with_reducible refine ck_nzL ?_; simp; done) | (with_reducible refine vp_in_nI ?_ ?_ <;> first | omega | decide) | (with_reducible refine Nat.le_of_ble_eq_true ?_; rfl) | omega | exact Or.inl trivial | exact Or.inr trivial | exact Or.inl rfl | exact Or.inr rfl)
  · intro zc6
    have ze6 := zc6
    refine hB bX10_plan_24 _ _ _ _ _ _ _ kX10_plan_24 ?_
    dsimp only [bX10_plan_24, kx_wp, kx_step, kx_lI, kx_lL, kx_lA, kx_gl, kx_pI, kx_pL, kx_pR, kx_pA, kx_pV, kx_s1, kx_s2, kx_sl, kx_pre, kx_c2, kx_pl, kx_cmp, kx_oF, kx_eqN, kx_nil, kx_c1, kx_ft, kx_aI, kx_aL, kx_aR, kx_ln, Nat.reduceAdd, Option.toList, List.cons_append, List.nil_append, cf10_13, cf10_6]
    repeat (simp only [h64, ks_eq, ks_ss]; try dsimp only [kx_wp, kx_step, kx_lI, kx_lL, kx_lA, kx_gl, kx_pI, kx_pL, kx_pR, kx_pA, kx_pV, kx_s1, kx_s2, kx_sl, kx_pre, kx_c2, kx_pl, kx_cmp, kx_oF, kx_eqN, kx_nil, kx_c1, kx_ft, kx_aI, kx_aL, kx_aR, kx_ln, Nat.reduceAdd, Option.toList, List.cons_append, List.nil_append, cf10_13, cf10_6])
    repeat' apply And.intro
    all_goals try (first | with_reducible assumption | (with_reducible refine ck_nzI ?_; simp; done) | (with_reducible refine ck_nzL ?_; simp; done) | (with_reducible refine vp_in_nI ?_ ?_ <;> first | omega | decide) | (with_reducible refine Nat.le_of_ble_eq_true ?_; rfl) | omega | exact Or.inl trivial | exact Or.inr trivial | exact Or.inl rfl | exact Or.inr rfl)
    exact hX.2 95 _ _ _ _ _ _ _ _ lX10_95 (ct_X10_need_x l G hst) rfl rfl (Nat.le_of_ble_eq_true rfl) (by first | decide | omega) (by decide) dX10_plan_25
  · intro zc6
    have ze6 := zc6
    refine hB bX10_plan_9 _ _ _ _ _ _ _ kX10_plan_9 ?_
    dsimp only [bX10_plan_9, kx_wp, kx_step, kx_lI, kx_lL, kx_lA, kx_gl, kx_pI, kx_pL, kx_pR, kx_pA, kx_pV, kx_s1, kx_s2, kx_sl, kx_pre, kx_c2, kx_pl, kx_cmp, kx_oF, kx_eqN, kx_nil, kx_c1, kx_ft, kx_aI, kx_aL, kx_aR, kx_ln, Nat.reduceAdd, Option.toList, List.cons_append, List.nil_append, cf10_13, cf10_6]
    repeat (simp only [h64, ks_eq, ks_ss]; try dsimp only [kx_wp, kx_step, kx_lI, kx_lL, kx_lA, kx_gl, kx_pI, kx_pL, kx_pR, kx_pA, kx_pV, kx_s1, kx_s2, kx_sl, kx_pre, kx_c2, kx_pl, kx_cmp, kx_oF, kx_eqN, kx_nil, kx_c1, kx_ft, kx_aI, kx_aL, kx_aR, kx_ln, Nat.reduceAdd, Option.toList, List.cons_append, List.nil_append, cf10_13, cf10_6])
    repeat' apply And.intro
    all_goals try (first | with_reducible assumption | (with_reducible refine ck_nzI ?_; simp; done) | (with_reducible refine ck_nzL ?_; simp; done) | (with_reducible refine vp_in_nI ?_ ?_ <;> first | omega | decide) | (with_reducible refine Nat.le_of_ble_eq_true ?_; rfl) | omega | exact Or.inl trivial | exact Or.inr trivial | exact Or.inl rfl | exact Or.inr rfl)
    · intro zc11
      with_reducible first | have ze11 := Int32.not_le.mpr zc11 | have ze11 := zc11
      refine hB bX10_plan_24 _ _ _ _ _ _ _ kX10_plan_24 ?_
      dsimp only [bX10_plan_24, kx_wp, kx_step, kx_lI, kx_lL, kx_lA, kx_gl, kx_pI, kx_pL, kx_pR, kx_pA, kx_pV, kx_s1, kx_s2, kx_sl, kx_pre, kx_c2, kx_pl, kx_cmp, kx_oF, kx_eqN, kx_nil, kx_c1, kx_ft, kx_aI, kx_aL, kx_aR, kx_ln, Nat.reduceAdd, Option.toList, List.cons_append, List.nil_append, cf10_13, cf10_6]
      repeat (simp only [h64, ks_eq, ks_ss]; try dsimp only [kx_wp, kx_step, kx_lI, kx_lL, kx_lA, kx_gl, kx_pI, kx_pL, kx_pR, kx_pA, kx_pV, kx_s1, kx_s2, kx_sl, kx_pre, kx_c2, kx_pl, kx_cmp, kx_oF, kx_eqN, kx_nil, kx_c1, kx_ft, kx_aI, kx_aL, kx_aR, kx_ln, Nat.reduceAdd, Option.toList, List.cons_append, List.nil_append, cf10_13, cf10_6])
      repeat' apply And.intro
      all_goals try (first | with_reducible assumption | (with_reducible refine ck_nzI ?_; simp; done) | (with_reducible refine ck_nzL ?_; simp; done) | (with_reducible refine vp_in_nI ?_ ?_ <;> first | omega | decide) | (with_reducible refine Nat.le_of_ble_eq_true ?_; rfl) | omega | exact Or.inl trivial | exact Or.inr trivial | exact Or.inl rfl | exact Or.inr rfl)
      exact hX.2 95 _ _ _ _ _ _ _ _ lX10_95 (ct_X10_need_x l G hst) rfl rfl (Nat.le_of_ble_eq_true rfl) (by first | decide | omega) (by decide) dX10_plan_25
    · intro zc11
      with_reducible first | have ze11 := Int32.not_lt.mp zc11 | have ze11 := zc11
      refine hB bX10_plan_14 _ _ _ _ _ _ _ kX10_plan_14 ?_
      dsimp only [bX10_plan_14, kx_wp, kx_step, kx_lI, kx_lL, kx_lA, kx_gl, kx_pI, kx_pL, kx_pR, kx_pA, kx_pV, kx_s1, kx_s2, kx_sl, kx_pre, kx_c2, kx_pl, kx_cmp, kx_oF, kx_eqN, kx_nil, kx_c1, kx_ft, kx_aI, kx_aL, kx_aR, kx_ln, Nat.reduceAdd, Option.toList, List.cons_append, List.nil_append, cf10_13, cf10_6]
      repeat (simp only [h64, ks_eq, ks_ss]; try dsimp only [kx_wp, kx_step, kx_lI, kx_lL, kx_lA, kx_gl, kx_pI, kx_pL, kx_pR, kx_pA, kx_pV, kx_s1, kx_s2, kx_sl, kx_pre, kx_c2, kx_pl, kx_cmp, kx_oF, kx_eqN, kx_nil, kx_c1, kx_ft, kx_aI, kx_aL, kx_aR, kx_ln, Nat.reduceAdd, Option.toList, List.cons_append, List.nil_append, cf10_13, cf10_6])
      repeat' apply And.intro
      all_goals try (first | with_reducible assumption | (with_reducible refine ck_nzI ?_; simp; done) | (with_reducible refine ck_nzL ?_; simp; done) | (with_reducible refine vp_in_nI ?_ ?_ <;> first | omega | decide) | (with_reducible refine Nat.le_of_ble_eq_true ?_; rfl) | omega | exact Or.inl trivial | exact Or.inr trivial | exact Or.inl rfl | exact Or.inr rfl)
      · intro zc17
        with_reducible first | have ze17 := Int32.not_le.mpr zc17 | have ze17 := zc17
        refine hB bX10_plan_24 _ _ _ _ _ _ _ kX10_plan_24 ?_
        dsimp only [bX10_plan_24, kx_wp, kx_step, kx_lI, kx_lL, kx_lA, kx_gl, kx_pI, kx_pL, kx_pR, kx_pA, kx_pV, kx_s1, kx_s2, kx_sl, kx_pre, kx_c2, kx_pl, kx_cmp, kx_oF, kx_eqN, kx_nil, kx_c1, kx_ft, kx_aI, kx_aL, kx_aR, kx_ln, Nat.reduceAdd, Option.toList, List.cons_append, List.nil_append, cf10_13, cf10_6]
        repeat (simp only [h64, ks_eq, ks_ss]; try dsimp only [kx_wp, kx_step, kx_lI, kx_lL, kx_lA, kx_gl, kx_pI, kx_pL, kx_pR, kx_pA, kx_pV, kx_s1, kx_s2, kx_sl, kx_pre, kx_c2, kx_pl, kx_cmp, kx_oF, kx_eqN, kx_nil, kx_c1, kx_ft, kx_aI, kx_aL, kx_aR, kx_ln, Nat.reduceAdd, Option.toList, List.cons_append, List.nil_append, cf10_13, cf10_6])
        repeat' apply And.intro
        all_goals try (first | with_reducible assumption | (with_reducible refine ck_nzI ?_; simp; done) | (with_reducible refine ck_nzL ?_; simp; done) | (with_reducible refine vp_in_nI ?_ ?_ <;> first | omega | decide) | (with_reducible refine Nat.le_of_ble_eq_true ?_; rfl) | omega | exact Or.inl trivial | exact Or.inr trivial | exact Or.inl rfl | exact Or.inr rfl)
        exact hX.2 95 _ _ _ _ _ _ _ _ lX10_95 (ct_X10_need_x l G hst) rfl rfl (Nat.le_of_ble_eq_true rfl) (by first | decide | omega) (by decide) dX10_plan_25
      · intro zc17
        with_reducible first | have ze17 := Int32.not_lt.mp zc17 | have ze17 := zc17
        exact absurd ⟨hq0.resolve_left zc6, ze11, ze17⟩ hb

set_option maxRecDepth 100000 in
set_option maxHeartbeats 4000000 in
theorem ct_X10_plan_c (l : Launch) (G : kx_G) (hst : l.stackTraces = false) {P : kx_P} {sz : Nat} {sv : Value} {K : Nat → Int32} (h64 : P 64 = kO 10 (kf (cr10 sv) K)) {b dy mn w : Int32} (hac : cx_ac b (K 7) 4 = 1) (hd1 : 1 ≤ dy) (hd2 : dy ≤ 10) (hb : ¬ ((mn = 1 ∨ mn = 2) ∧ 0 ≤ w ∧ w ≤ dy))  : kx_X l G sX10_plan 7 [.ref 64, .int (b), .int (dy), .int (mn), .int (w)] P sz "java/lang/IllegalArgumentException" := by
  refine kx_mkx hst kx_tab kxLok_X10 [some (.ref 64), some (.int (b)), some (.int (dy)), some (.int (mn)), some (.int (w))] ⟨by decide, rfl, by decide⟩ rfl rfl (fun g hB hC hX hT => ?_)
  refine hB bX10_plan_0 _ _ _ _ _ _ _ kX10_plan_0 ?_
  dsimp only [bX10_plan_0, kx_wp, kx_step, kx_lI, kx_lL, kx_lA, kx_gl, kx_pI, kx_pL, kx_pR, kx_pA, kx_pV, kx_s1, kx_s2, kx_sl, kx_pre, kx_c2, kx_pl, kx_cmp, kx_oF, kx_eqN, kx_nil, kx_c1, kx_ft, kx_aI, kx_aL, kx_aR, kx_ln, Nat.reduceAdd, Option.toList, List.cons_append, List.nil_append, cf10_13, cf10_6]
  repeat (simp only [h64, hac, ks_eq, ks_ss]; try dsimp only [kx_wp, kx_step, kx_lI, kx_lL, kx_lA, kx_gl, kx_pI, kx_pL, kx_pR, kx_pA, kx_pV, kx_s1, kx_s2, kx_sl, kx_pre, kx_c2, kx_pl, kx_cmp, kx_oF, kx_eqN, kx_nil, kx_c1, kx_ft, kx_aI, kx_aL, kx_aR, kx_ln, Nat.reduceAdd, Option.toList, List.cons_append, List.nil_append, cf10_13, cf10_6])
  repeat' apply And.intro
  all_goals try (first | with_reducible assumption | (with_reducible refine ck_nzI ?_; simp; done) | (with_reducible refine ck_nzL ?_; simp; done) | (with_reducible refine vp_in_nI ?_ ?_ <;> first | omega | decide) | (with_reducible refine Nat.le_of_ble_eq_true ?_; rfl) | omega | exact Or.inl trivial | exact Or.inr trivial | exact Or.inl rfl | exact Or.inr rfl)
  refine hC.1 261 _ _ _ _ _ _ _ 10 _ _ _ _ _ _ _ _ _ _ _ _ lX10_261 (ct_X10_areClocks l G h64) ⟨by decide, rfl⟩ (h64) rfl rfl (Nat.le_of_ble_eq_true rfl) (by first | decide | omega) (by decide) (by omega) (by omega) dX10_plan_3 ?_
  rw [hac]
  refine hB bX10_plan_6 _ _ _ _ _ _ _ kX10_plan_6 ?_
  dsimp only [bX10_plan_6, kx_wp, kx_step, kx_lI, kx_lL, kx_lA, kx_gl, kx_pI, kx_pL, kx_pR, kx_pA, kx_pV, kx_s1, kx_s2, kx_sl, kx_pre, kx_c2, kx_pl, kx_cmp, kx_oF, kx_eqN, kx_nil, kx_c1, kx_ft, kx_aI, kx_aL, kx_aR, kx_ln, Nat.reduceAdd, Option.toList, List.cons_append, List.nil_append, cf10_13, cf10_6]
  repeat (simp only [h64, hac, ks_eq, ks_ss]; try dsimp only [kx_wp, kx_step, kx_lI, kx_lL, kx_lA, kx_gl, kx_pI, kx_pL, kx_pR, kx_pA, kx_pV, kx_s1, kx_s2, kx_sl, kx_pre, kx_c2, kx_pl, kx_cmp, kx_oF, kx_eqN, kx_nil, kx_c1, kx_ft, kx_aI, kx_aL, kx_aR, kx_ln, Nat.reduceAdd, Option.toList, List.cons_append, List.nil_append, cf10_13, cf10_6])
  repeat' apply And.intro
  all_goals try (first | with_reducible assumption | (with_reducible refine ck_nzI ?_; simp; done) | (with_reducible refine ck_nzL ?_; simp; done) | (with_reducible refine vp_in_nI ?_ ?_ <;> first | omega | decide) | (with_reducible refine Nat.le_of_ble_eq_true ?_; rfl) | omega | exact Or.inl trivial | exact Or.inr trivial | exact Or.inl rfl | exact Or.inr rfl)
  · intro zc6
    first | exact absurd rfl zc6 | exact absurd zc6 (by decide) | exact absurd (by decide) zc6 | (exfalso; first | exact absurd zc6 (by decide) | exact absurd hd1 (Int32.not_le.mpr zc11) | exact absurd hd2 (Int32.not_le.mpr zc17)) | (exfalso; simp_all; done)
  · intro zc6
    have ze6 := zc6
    refine hB bX10_plan_9 _ _ _ _ _ _ _ kX10_plan_9 ?_
    dsimp only [bX10_plan_9, kx_wp, kx_step, kx_lI, kx_lL, kx_lA, kx_gl, kx_pI, kx_pL, kx_pR, kx_pA, kx_pV, kx_s1, kx_s2, kx_sl, kx_pre, kx_c2, kx_pl, kx_cmp, kx_oF, kx_eqN, kx_nil, kx_c1, kx_ft, kx_aI, kx_aL, kx_aR, kx_ln, Nat.reduceAdd, Option.toList, List.cons_append, List.nil_append, cf10_13, cf10_6]
    repeat (simp only [h64, hac, ks_eq, ks_ss]; try dsimp only [kx_wp, kx_step, kx_lI, kx_lL, kx_lA, kx_gl, kx_pI, kx_pL, kx_pR, kx_pA, kx_pV, kx_s1, kx_s2, kx_sl, kx_pre, kx_c2, kx_pl, kx_cmp, kx_oF, kx_eqN, kx_nil, kx_c1, kx_ft, kx_aI, kx_aL, kx_aR, kx_ln, Nat.reduceAdd, Option.toList, List.cons_append, List.nil_append, cf10_13, cf10_6])
    repeat' apply And.intro
    all_goals try (first | with_reducible assumption | (with_reducible refine ck_nzI ?_; simp; done) | (with_reducible refine ck_nzL ?_; simp; done) | (with_reducible refine vp_in_nI ?_ ?_ <;> first | omega | decide) | (with_reducible refine Nat.le_of_ble_eq_true ?_; rfl) | omega | exact Or.inl trivial | exact Or.inr trivial | exact Or.inl rfl | exact Or.inr rfl)
    · intro zc11
      first | exact absurd rfl zc11 | exact absurd zc11 (by decide) | exact absurd (by decide) zc11 | (exfalso; first | exact absurd zc6 (by decide) | exact absurd hd1 (Int32.not_le.mpr zc11) | exact absurd hd2 (Int32.not_le.mpr zc17)) | (exfalso; simp_all; done)
    · intro zc11
      with_reducible first | have ze11 := Int32.not_lt.mp zc11 | have ze11 := zc11
      refine hB bX10_plan_14 _ _ _ _ _ _ _ kX10_plan_14 ?_
      dsimp only [bX10_plan_14, kx_wp, kx_step, kx_lI, kx_lL, kx_lA, kx_gl, kx_pI, kx_pL, kx_pR, kx_pA, kx_pV, kx_s1, kx_s2, kx_sl, kx_pre, kx_c2, kx_pl, kx_cmp, kx_oF, kx_eqN, kx_nil, kx_c1, kx_ft, kx_aI, kx_aL, kx_aR, kx_ln, Nat.reduceAdd, Option.toList, List.cons_append, List.nil_append, cf10_13, cf10_6]
      repeat (simp only [h64, hac, ks_eq, ks_ss]; try dsimp only [kx_wp, kx_step, kx_lI, kx_lL, kx_lA, kx_gl, kx_pI, kx_pL, kx_pR, kx_pA, kx_pV, kx_s1, kx_s2, kx_sl, kx_pre, kx_c2, kx_pl, kx_cmp, kx_oF, kx_eqN, kx_nil, kx_c1, kx_ft, kx_aI, kx_aL, kx_aR, kx_ln, Nat.reduceAdd, Option.toList, List.cons_append, List.nil_append, cf10_13, cf10_6])
      repeat' apply And.intro
      all_goals try (first | with_reducible assumption | (with_reducible refine ck_nzI ?_; simp; done) | (with_reducible refine ck_nzL ?_; simp; done) | (with_reducible refine vp_in_nI ?_ ?_ <;> first | omega | decide) | (with_reducible refine Nat.le_of_ble_eq_true ?_; rfl) | omega | exact Or.inl trivial | exact Or.inr trivial | exact Or.inl rfl | exact Or.inr rfl)
      · intro zc17
        first | exact absurd rfl zc17 | exact absurd zc17 (by decide) | exact absurd (by decide) zc17 | (exfalso; first | exact absurd zc6 (by decide) | exact absurd hd1 (Int32.not_le.mpr zc11) | exact absurd hd2 (Int32.not_le.mpr zc17)) | (exfalso; simp_all; done)
      · intro zc17
        with_reducible first | have ze17 := Int32.not_lt.mp zc17 | have ze17 := zc17
        refine hB bX10_plan_20 _ _ _ _ _ _ _ kX10_plan_20 ?_
        dsimp only [bX10_plan_20, kx_wp, kx_step, kx_lI, kx_lL, kx_lA, kx_gl, kx_pI, kx_pL, kx_pR, kx_pA, kx_pV, kx_s1, kx_s2, kx_sl, kx_pre, kx_c2, kx_pl, kx_cmp, kx_oF, kx_eqN, kx_nil, kx_c1, kx_ft, kx_aI, kx_aL, kx_aR, kx_ln, Nat.reduceAdd, Option.toList, List.cons_append, List.nil_append, cf10_13, cf10_6]
        repeat (simp only [h64, hac, ks_eq, ks_ss]; try dsimp only [kx_wp, kx_step, kx_lI, kx_lL, kx_lA, kx_gl, kx_pI, kx_pL, kx_pR, kx_pA, kx_pV, kx_s1, kx_s2, kx_sl, kx_pre, kx_c2, kx_pl, kx_cmp, kx_oF, kx_eqN, kx_nil, kx_c1, kx_ft, kx_aI, kx_aL, kx_aR, kx_ln, Nat.reduceAdd, Option.toList, List.cons_append, List.nil_append, cf10_13, cf10_6])
        repeat' apply And.intro
        all_goals try (first | with_reducible assumption | (with_reducible refine ck_nzI ?_; simp; done) | (with_reducible refine ck_nzL ?_; simp; done) | (with_reducible refine vp_in_nI ?_ ?_ <;> first | omega | decide) | (with_reducible refine Nat.le_of_ble_eq_true ?_; rfl) | omega | exact Or.inl trivial | exact Or.inr trivial | exact Or.inl rfl | exact Or.inr rfl)
        refine hC.2.1 95 _ _ _ _ _ _ _ _ _ _ _ _ _ _ _ _ _ lX10_95 (ct_X10_need l G (b := 1) (by decide)) rfl rfl (Nat.le_of_ble_eq_true rfl) (by first | decide | omega) (by decide) (by omega) (by omega) dX10_plan_25 ?_
        refine hB bX10_plan_28 _ _ _ _ _ _ _ kX10_plan_28 ?_
        dsimp only [bX10_plan_28, kx_wp, kx_step, kx_lI, kx_lL, kx_lA, kx_gl, kx_pI, kx_pL, kx_pR, kx_pA, kx_pV, kx_s1, kx_s2, kx_sl, kx_pre, kx_c2, kx_pl, kx_cmp, kx_oF, kx_eqN, kx_nil, kx_c1, kx_ft, kx_aI, kx_aL, kx_aR, kx_ln, Nat.reduceAdd, Option.toList, List.cons_append, List.nil_append, cf10_13, cf10_6]
        repeat (simp only [h64, hac, ks_eq, ks_ss]; try dsimp only [kx_wp, kx_step, kx_lI, kx_lL, kx_lA, kx_gl, kx_pI, kx_pL, kx_pR, kx_pA, kx_pV, kx_s1, kx_s2, kx_sl, kx_pre, kx_c2, kx_pl, kx_cmp, kx_oF, kx_eqN, kx_nil, kx_c1, kx_ft, kx_aI, kx_aL, kx_aR, kx_ln, Nat.reduceAdd, Option.toList, List.cons_append, List.nil_append, cf10_13, cf10_6])
        repeat' apply And.intro
        all_goals try (first | with_reducible assumption | (with_reducible refine ck_nzI ?_; simp; done) | (with_reducible refine ck_nzL ?_; simp; done) | (with_reducible refine vp_in_nI ?_ ?_ <;> first | omega | decide) | (with_reducible refine Nat.le_of_ble_eq_true ?_; rfl) | omega | exact Or.inl trivial | exact Or.inr trivial | exact Or.inl rfl | exact Or.inr rfl)
        · intro zc30
          have ze30 := zc30
          refine hB bX10_plan_38 _ _ _ _ _ _ _ kX10_plan_38 ?_
          dsimp only [bX10_plan_38, kx_wp, kx_step, kx_lI, kx_lL, kx_lA, kx_gl, kx_pI, kx_pL, kx_pR, kx_pA, kx_pV, kx_s1, kx_s2, kx_sl, kx_pre, kx_c2, kx_pl, kx_cmp, kx_oF, kx_eqN, kx_nil, kx_c1, kx_ft, kx_aI, kx_aL, kx_aR, kx_ln, Nat.reduceAdd, Option.toList, List.cons_append, List.nil_append, cf10_13, cf10_6]
          repeat (simp only [h64, hac, ks_eq, ks_ss]; try dsimp only [kx_wp, kx_step, kx_lI, kx_lL, kx_lA, kx_gl, kx_pI, kx_pL, kx_pR, kx_pA, kx_pV, kx_s1, kx_s2, kx_sl, kx_pre, kx_c2, kx_pl, kx_cmp, kx_oF, kx_eqN, kx_nil, kx_c1, kx_ft, kx_aI, kx_aL, kx_aR, kx_ln, Nat.reduceAdd, Option.toList, List.cons_append, List.nil_append, cf10_13, cf10_6])
          repeat' apply And.intro
          all_goals try (first | with_reducible assumption | (with_reducible refine ck_nzI ?_; simp; done) | (with_reducible refine ck_nzL ?_; simp; done) | (with_reducible refine vp_in_nI ?_ ?_ <;> first | omega | decide) | (with_reducible refine Nat.le_of_ble_eq_true ?_; rfl) | omega | exact Or.inl trivial | exact Or.inr trivial | exact Or.inl rfl | exact Or.inr rfl)
          · intro zc40
            with_reducible first | have ze40 := Int32.not_le.mpr zc40 | have ze40 := zc40
            refine hB bX10_plan_53 _ _ _ _ _ _ _ kX10_plan_53 ?_
            dsimp only [bX10_plan_53, kx_wp, kx_step, kx_lI, kx_lL, kx_lA, kx_gl, kx_pI, kx_pL, kx_pR, kx_pA, kx_pV, kx_s1, kx_s2, kx_sl, kx_pre, kx_c2, kx_pl, kx_cmp, kx_oF, kx_eqN, kx_nil, kx_c1, kx_ft, kx_aI, kx_aL, kx_aR, kx_ln, Nat.reduceAdd, Option.toList, List.cons_append, List.nil_append, cf10_13, cf10_6]
            repeat (simp only [h64, hac, ks_eq, ks_ss]; try dsimp only [kx_wp, kx_step, kx_lI, kx_lL, kx_lA, kx_gl, kx_pI, kx_pL, kx_pR, kx_pA, kx_pV, kx_s1, kx_s2, kx_sl, kx_pre, kx_c2, kx_pl, kx_cmp, kx_oF, kx_eqN, kx_nil, kx_c1, kx_ft, kx_aI, kx_aL, kx_aR, kx_ln, Nat.reduceAdd, Option.toList, List.cons_append, List.nil_append, cf10_13, cf10_6])
            repeat' apply And.intro
            all_goals try (first | with_reducible assumption | (with_reducible refine ck_nzI ?_; simp; done) | (with_reducible refine ck_nzL ?_; simp; done) | (with_reducible refine vp_in_nI ?_ ?_ <;> first | omega | decide) | (with_reducible refine Nat.le_of_ble_eq_true ?_; rfl) | omega | exact Or.inl trivial | exact Or.inr trivial | exact Or.inl rfl | exact Or.inr rfl)
            exact hX.2 95 _ _ _ _ _ _ _ _ lX10_95 (ct_X10_need_x l G hst) rfl rfl (Nat.le_of_ble_eq_true rfl) (by first | decide | omega) (by decide) dX10_plan_54
          · intro zc40
            with_reducible first | have ze40 := Int32.not_lt.mp zc40 | have ze40 := zc40
            refine hB bX10_plan_43 _ _ _ _ _ _ _ kX10_plan_43 ?_
            dsimp only [bX10_plan_43, kx_wp, kx_step, kx_lI, kx_lL, kx_lA, kx_gl, kx_pI, kx_pL, kx_pR, kx_pA, kx_pV, kx_s1, kx_s2, kx_sl, kx_pre, kx_c2, kx_pl, kx_cmp, kx_oF, kx_eqN, kx_nil, kx_c1, kx_ft, kx_aI, kx_aL, kx_aR, kx_ln, Nat.reduceAdd, Option.toList, List.cons_append, List.nil_append, cf10_13, cf10_6]
            repeat (simp only [h64, hac, ks_eq, ks_ss]; try dsimp only [kx_wp, kx_step, kx_lI, kx_lL, kx_lA, kx_gl, kx_pI, kx_pL, kx_pR, kx_pA, kx_pV, kx_s1, kx_s2, kx_sl, kx_pre, kx_c2, kx_pl, kx_cmp, kx_oF, kx_eqN, kx_nil, kx_c1, kx_ft, kx_aI, kx_aL, kx_aR, kx_ln, Nat.reduceAdd, Option.toList, List.cons_append, List.nil_append, cf10_13, cf10_6])
            repeat' apply And.intro
            all_goals try (first | with_reducible assumption | (with_reducible refine ck_nzI ?_; simp; done) | (with_reducible refine ck_nzL ?_; simp; done) | (with_reducible refine vp_in_nI ?_ ?_ <;> first | omega | decide) | (with_reducible refine Nat.le_of_ble_eq_true ?_; rfl) | omega | exact Or.inl trivial | exact Or.inr trivial | exact Or.inl rfl | exact Or.inr rfl)
            · intro zc46
              with_reducible first | have ze46 := Int32.not_le.mpr zc46 | have ze46 := zc46
              refine hB bX10_plan_53 _ _ _ _ _ _ _ kX10_plan_53 ?_
              dsimp only [bX10_plan_53, kx_wp, kx_step, kx_lI, kx_lL, kx_lA, kx_gl, kx_pI, kx_pL, kx_pR, kx_pA, kx_pV, kx_s1, kx_s2, kx_sl, kx_pre, kx_c2, kx_pl, kx_cmp, kx_oF, kx_eqN, kx_nil, kx_c1, kx_ft, kx_aI, kx_aL, kx_aR, kx_ln, Nat.reduceAdd, Option.toList, List.cons_append, List.nil_append, cf10_13, cf10_6]
              repeat (simp only [h64, hac, ks_eq, ks_ss]; try dsimp only [kx_wp, kx_step, kx_lI, kx_lL, kx_lA, kx_gl, kx_pI, kx_pL, kx_pR, kx_pA, kx_pV, kx_s1, kx_s2, kx_sl, kx_pre, kx_c2, kx_pl, kx_cmp, kx_oF, kx_eqN, kx_nil, kx_c1, kx_ft, kx_aI, kx_aL, kx_aR, kx_ln, Nat.reduceAdd, Option.toList, List.cons_append, List.nil_append, cf10_13, cf10_6])
              repeat' apply And.intro
              all_goals try (first | with_reducible assumption | (with_reducible refine ck_nzI ?_; simp; done) | (with_reducible refine ck_nzL ?_; simp; done) | (with_reducible refine vp_in_nI ?_ ?_ <;> first | omega | decide) | (with_reducible refine Nat.le_of_ble_eq_true ?_; rfl) | omega | exact Or.inl trivial | exact Or.inr trivial | exact Or.inl rfl | exact Or.inr rfl)
              exact hX.2 95 _ _ _ _ _ _ _ _ lX10_95 (ct_X10_need_x l G hst) rfl rfl (Nat.le_of_ble_eq_true rfl) (by first | decide | omega) (by decide) dX10_plan_54
            · intro zc46
              with_reducible first | have ze46 := Int32.not_lt.mp zc46 | have ze46 := zc46
              have hmn9 : mn = 1 ∨ mn = 2 := by first | exact Or.inl ze30 | exact Or.inr ze35
              exact absurd ⟨hmn9, ze40, ze46⟩ hb
        · intro zc30
          have ze30 := zc30
          refine hB bX10_plan_33 _ _ _ _ _ _ _ kX10_plan_33 ?_
          dsimp only [bX10_plan_33, kx_wp, kx_step, kx_lI, kx_lL, kx_lA, kx_gl, kx_pI, kx_pL, kx_pR, kx_pA, kx_pV, kx_s1, kx_s2, kx_sl, kx_pre, kx_c2, kx_pl, kx_cmp, kx_oF, kx_eqN, kx_nil, kx_c1, kx_ft, kx_aI, kx_aL, kx_aR, kx_ln, Nat.reduceAdd, Option.toList, List.cons_append, List.nil_append, cf10_13, cf10_6]
          repeat (simp only [h64, hac, ks_eq, ks_ss]; try dsimp only [kx_wp, kx_step, kx_lI, kx_lL, kx_lA, kx_gl, kx_pI, kx_pL, kx_pR, kx_pA, kx_pV, kx_s1, kx_s2, kx_sl, kx_pre, kx_c2, kx_pl, kx_cmp, kx_oF, kx_eqN, kx_nil, kx_c1, kx_ft, kx_aI, kx_aL, kx_aR, kx_ln, Nat.reduceAdd, Option.toList, List.cons_append, List.nil_append, cf10_13, cf10_6])
          repeat' apply And.intro
          all_goals try (first | with_reducible assumption | (with_reducible refine ck_nzI ?_; simp; done) | (with_reducible refine ck_nzL ?_; simp; done) | (with_reducible refine vp_in_nI ?_ ?_ <;> first | omega | decide) | (with_reducible refine Nat.le_of_ble_eq_true ?_; rfl) | omega | exact Or.inl trivial | exact Or.inr trivial | exact Or.inl rfl | exact Or.inr rfl)
          · intro zc35
            have ze35 := zc35
            refine hB bX10_plan_53 _ _ _ _ _ _ _ kX10_plan_53 ?_
            dsimp only [bX10_plan_53, kx_wp, kx_step, kx_lI, kx_lL, kx_lA, kx_gl, kx_pI, kx_pL, kx_pR, kx_pA, kx_pV, kx_s1, kx_s2, kx_sl, kx_pre, kx_c2, kx_pl, kx_cmp, kx_oF, kx_eqN, kx_nil, kx_c1, kx_ft, kx_aI, kx_aL, kx_aR, kx_ln, Nat.reduceAdd, Option.toList, List.cons_append, List.nil_append, cf10_13, cf10_6]
            repeat (simp only [h64, hac, ks_eq, ks_ss]; try dsimp only [kx_wp, kx_step, kx_lI, kx_lL, kx_lA, kx_gl, kx_pI, kx_pL, kx_pR, kx_pA, kx_pV, kx_s1, kx_s2, kx_sl, kx_pre, kx_c2, kx_pl, kx_cmp, kx_oF, kx_eqN, kx_nil, kx_c1, kx_ft, kx_aI, kx_aL, kx_aR, kx_ln, Nat.reduceAdd, Option.toList, List.cons_append, List.nil_append, cf10_13, cf10_6])
            repeat' apply And.intro
            all_goals try (first | with_reducible assumption | (with_reducible refine ck_nzI ?_; simp; done) | (with_reducible refine ck_nzL ?_; simp; done) | (with_reducible refine vp_in_nI ?_ ?_ <;> first | omega | decide) | (with_reducible refine Nat.le_of_ble_eq_true ?_; rfl) | omega | exact Or.inl trivial | exact Or.inr trivial | exact Or.inl rfl | exact Or.inr rfl)
            exact hX.2 95 _ _ _ _ _ _ _ _ lX10_95 (ct_X10_need_x l G hst) rfl rfl (Nat.le_of_ble_eq_true rfl) (by first | decide | omega) (by decide) dX10_plan_54
          · intro zc35
            with_reducible first | have ze35 := Decidable.not_not.mp zc35 | have ze35 := zc35
            refine hB bX10_plan_38 _ _ _ _ _ _ _ kX10_plan_38 ?_
            dsimp only [bX10_plan_38, kx_wp, kx_step, kx_lI, kx_lL, kx_lA, kx_gl, kx_pI, kx_pL, kx_pR, kx_pA, kx_pV, kx_s1, kx_s2, kx_sl, kx_pre, kx_c2, kx_pl, kx_cmp, kx_oF, kx_eqN, kx_nil, kx_c1, kx_ft, kx_aI, kx_aL, kx_aR, kx_ln, Nat.reduceAdd, Option.toList, List.cons_append, List.nil_append, cf10_13, cf10_6]
            repeat (simp only [h64, hac, ks_eq, ks_ss]; try dsimp only [kx_wp, kx_step, kx_lI, kx_lL, kx_lA, kx_gl, kx_pI, kx_pL, kx_pR, kx_pA, kx_pV, kx_s1, kx_s2, kx_sl, kx_pre, kx_c2, kx_pl, kx_cmp, kx_oF, kx_eqN, kx_nil, kx_c1, kx_ft, kx_aI, kx_aL, kx_aR, kx_ln, Nat.reduceAdd, Option.toList, List.cons_append, List.nil_append, cf10_13, cf10_6])
            repeat' apply And.intro
            all_goals try (first | with_reducible assumption | (with_reducible refine ck_nzI ?_; simp; done) | (with_reducible refine ck_nzL ?_; simp; done) | (with_reducible refine vp_in_nI ?_ ?_ <;> first | omega | decide) | (with_reducible refine Nat.le_of_ble_eq_true ?_; rfl) | omega | exact Or.inl trivial | exact Or.inr trivial | exact Or.inl rfl | exact Or.inr rfl)
            · intro zc40
              with_reducible first | have ze40 := Int32.not_le.mpr zc40 | have ze40 := zc40
              refine hB bX10_plan_53 _ _ _ _ _ _ _ kX10_plan_53 ?_
              dsimp only [bX10_plan_53, kx_wp, kx_step, kx_lI, kx_lL, kx_lA, kx_gl, kx_pI, kx_pL, kx_pR, kx_pA, kx_pV, kx_s1, kx_s2, kx_sl, kx_pre, kx_c2, kx_pl, kx_cmp, kx_oF, kx_eqN, kx_nil, kx_c1, kx_ft, kx_aI, kx_aL, kx_aR, kx_ln, Nat.reduceAdd, Option.toList, List.cons_append, List.nil_append, cf10_13, cf10_6]
              repeat (simp only [h64, hac, ks_eq, ks_ss]; try dsimp only [kx_wp, kx_step, kx_lI, kx_lL, kx_lA, kx_gl, kx_pI, kx_pL, kx_pR, kx_pA, kx_pV, kx_s1, kx_s2, kx_sl, kx_pre, kx_c2, kx_pl, kx_cmp, kx_oF, kx_eqN, kx_nil, kx_c1, kx_ft, kx_aI, kx_aL, kx_aR, kx_ln, Nat.reduceAdd, Option.toList, List.cons_append, List.nil_append, cf10_13, cf10_6])
              repeat' apply And.intro
              all_goals try (first | with_reducible assumption | (with_reducible refine ck_nzI ?_; simp; done) | (with_reducible refine ck_nzL ?_; simp; done) | (with_reducible refine vp_in_nI ?_ ?_ <;> first | omega | decide) | (with_reducible refine Nat.le_of_ble_eq_true ?_; rfl) | omega | exact Or.inl trivial | exact Or.inr trivial | exact Or.inl rfl | exact Or.inr rfl)
              exact hX.2 95 _ _ _ _ _ _ _ _ lX10_95 (ct_X10_need_x l G hst) rfl rfl (Nat.le_of_ble_eq_true rfl) (by first | decide | omega) (by decide) dX10_plan_54
            · intro zc40
              with_reducible first | have ze40 := Int32.not_lt.mp zc40 | have ze40 := zc40
              refine hB bX10_plan_43 _ _ _ _ _ _ _ kX10_plan_43 ?_
              dsimp only [bX10_plan_43, kx_wp, kx_step, kx_lI, kx_lL, kx_lA, kx_gl, kx_pI, kx_pL, kx_pR, kx_pA, kx_pV, kx_s1, kx_s2, kx_sl, kx_pre, kx_c2, kx_pl, kx_cmp, kx_oF, kx_eqN, kx_nil, kx_c1, kx_ft, kx_aI, kx_aL, kx_aR, kx_ln, Nat.reduceAdd, Option.toList, List.cons_append, List.nil_append, cf10_13, cf10_6]
              repeat (simp only [h64, hac, ks_eq, ks_ss]; try dsimp only [kx_wp, kx_step, kx_lI, kx_lL, kx_lA, kx_gl, kx_pI, kx_pL, kx_pR, kx_pA, kx_pV, kx_s1, kx_s2, kx_sl, kx_pre, kx_c2, kx_pl, kx_cmp, kx_oF, kx_eqN, kx_nil, kx_c1, kx_ft, kx_aI, kx_aL, kx_aR, kx_ln, Nat.reduceAdd, Option.toList, List.cons_append, List.nil_append, cf10_13, cf10_6])
              repeat' apply And.intro
              all_goals try (first | with_reducible assumption | (with_reducible refine ck_nzI ?_; simp; done) | (with_reducible refine ck_nzL ?_; simp; done) | (with_reducible refine vp_in_nI ?_ ?_ <;> first | omega | decide) | (with_reducible refine Nat.le_of_ble_eq_true ?_; rfl) | omega | exact Or.inl trivial | exact Or.inr trivial | exact Or.inl rfl | exact Or.inr rfl)
              · intro zc46
                with_reducible first | have ze46 := Int32.not_le.mpr zc46 | have ze46 := zc46
                refine hB bX10_plan_53 _ _ _ _ _ _ _ kX10_plan_53 ?_
                dsimp only [bX10_plan_53, kx_wp, kx_step, kx_lI, kx_lL, kx_lA, kx_gl, kx_pI, kx_pL, kx_pR, kx_pA, kx_pV, kx_s1, kx_s2, kx_sl, kx_pre, kx_c2, kx_pl, kx_cmp, kx_oF, kx_eqN, kx_nil, kx_c1, kx_ft, kx_aI, kx_aL, kx_aR, kx_ln, Nat.reduceAdd, Option.toList, List.cons_append, List.nil_append, cf10_13, cf10_6]
                repeat (simp only [h64, hac, ks_eq, ks_ss]; try dsimp only [kx_wp, kx_step, kx_lI, kx_lL, kx_lA, kx_gl, kx_pI, kx_pL, kx_pR, kx_pA, kx_pV, kx_s1, kx_s2, kx_sl, kx_pre, kx_c2, kx_pl, kx_cmp, kx_oF, kx_eqN, kx_nil, kx_c1, kx_ft, kx_aI, kx_aL, kx_aR, kx_ln, Nat.reduceAdd, Option.toList, List.cons_append, List.nil_append, cf10_13, cf10_6])
                repeat' apply And.intro
                all_goals try (first | with_reducible assumption | (with_reducible refine ck_nzI ?_; simp; done) | (with_reducible refine ck_nzL ?_; simp; done) | (with_reducible refine vp_in_nI ?_ ?_ <;> first | omega | decide) | (with_reducible refine Nat.le_of_ble_eq_true ?_; rfl) | omega | exact Or.inl trivial | exact Or.inr trivial | exact Or.inl rfl | exact Or.inr rfl)
                exact hX.2 95 _ _ _ _ _ _ _ _ lX10_95 (ct_X10_need_x l G hst) rfl rfl (Nat.le_of_ble_eq_true rfl) (by first | decide | omega) (by decide) dX10_plan_54
              · intro zc46
                with_reducible first | have ze46 := Int32.not_lt.mp zc46 | have ze46 := zc46
                have hmn9 : mn = 1 ∨ mn = 2 := by first | exact Or.inl ze30 | exact Or.inr ze35
                exact absurd ⟨hmn9, ze40, ze46⟩ hb


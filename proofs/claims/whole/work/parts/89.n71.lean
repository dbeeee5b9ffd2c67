theorem cx_er {a b : Nat} (ha : a < 86400000000) (hb : b < 1440) : (cj_fmL (lN a - lN (b * 60 * 1000000) + 43200000000) 86400000000 - 43200000000) = (if (if (-43200000000) ≤ lN a - 60000000 * lN b then lN a - 60000000 * lN b else lN a - 60000000 * lN b + 86400000000) < 43200000000 then (if (-43200000000) ≤ lN a - 60000000 * lN b then lN a - 60000000 * lN b else lN a - 60000000 * lN b + 86400000000) else (if (-43200000000) ≤ lN a - 60000000 * lN b then lN a - 60000000 * lN b else lN a - 60000000 * lN b + 86400000000) - 86400000000) := by
  have e0 : (60000000 : Int64) * lN b = lN (b * 60 * 1000000) := by rw [show (60000000 : Int64) = lN 60000000 from rfl, lN_mul]; congr 1; omega
  rw [e0]
  have e1 : (lN a - lN (b * 60 * 1000000)).toInt = (a : Int) - (b * 60 * 1000000 : Nat) := by
    rw [Int64.toInt_sub, pk_lT (by omega), pk_lT (by omega)]
    exact Int.bmod_eq_of_le (by omega) (by omega)
  generalize lN a - lN (b * 60 * 1000000) = e at e1 ⊢
  have c1 : (43200000000 : Int64).toInt = 43200000000 := rfl
  have c2 : (86400000000 : Int64).toInt = 86400000000 := rfl
  have c3 : (-43200000000 : Int64).toInt = -43200000000 := rfl
  have a1 : (e + 43200000000).toInt = e.toInt + 43200000000 := by rw [Int64.toInt_add, c1]; exact Int.bmod_eq_of_le (by omega) (by omega)
  have a2 : (e + 86400000000).toInt = e.toInt + 86400000000 := by rw [Int64.toInt_add, c2]; exact Int.bmod_eq_of_le (by omega) (by omega)
  have a3 : (e - 86400000000).toInt = e.toInt - 86400000000 := by rw [Int64.toInt_sub, c2]; exact Int.bmod_eq_of_le (by omega) (by omega)
  have a4 : (cj_fmL (e + 43200000000) 86400000000).toInt = (e.toInt + 43200000000) % 86400000000 := by rw [cj_fmL_i (by rw [c2]; omega), c2, a1]
  apply Int64.toInt_inj.mp
  rw [Int64.toInt_sub, a4, c1, Int.bmod_eq_of_le (by omega) (by omega)]
  by_cases h1 : (-43200000000) ≤ e
  · rw [if_pos h1]
    have h1' := h1
    rw [Int64.le_iff_toInt_le, c3] at h1'
    by_cases h2 : e < 43200000000
    · rw [if_pos h2]; rw [Int64.lt_iff_toInt_lt, c1] at h2; omega
    · rw [if_neg h2, a3]; rw [Int64.lt_iff_toInt_lt, c1] at h2; omega
  · rw [if_neg h1]
    rw [Int64.le_iff_toInt_le, c3] at h1
    have h2 : e + 86400000000 < 43200000000 := by rw [Int64.lt_iff_toInt_lt, a2, c1]; omega
    rw [if_pos h2, a2]; omega
def bX1_errorIn_0 : List kx_O := [(.aload_n 0, 0, 0, 0, .null), (.getfield 15, 1, 3, 0, .null), (.iload_n 1, 1, 0, 0, .null), (.sipush 1440, 0, 0, 0, .int 1440), (.irem, 0, 0, 0, .null), (.i2l, 0, 0, 0, .null), (.ldc2_w 103, 0, 0, 0, .long (60)), (.lmul, 0, 0, 0, .null), (.ldc2_w 105, 0, 0, 0, .long (1000000)), (.lmul, 0, 0, 0, .null), (.lsub, 0, 0, 0, .null), (.lstore_n 2, 2, 0, 0, .null), (.lload_n 2, 2, 0, 0, .null), (.ldc2_w 107, 0, 0, 0, .long (43200000000)), (.ladd, 0, 0, 0, .null), (.ldc2_w 109, 0, 0, 0, .long (86400000000))]
theorem kX1_errorIn_0 : kx_oks kxL_X1 false cX1_errorIn 0 bX1_errorIn_0 = true := by decide +kernel
def bX1_errorIn_31 : List kx_O := [(.ldc2_w 107, 0, 0, 0, .long (43200000000)), (.lsub, 0, 0, 0, .null), (.lstore 4, 4, 0, 0, .null), (.lload 4, 4, 0, 0, .null), (.ldc2_w 98, 0, 0, 0, .long (1000)), (.ldiv, 0, 0, 0, .null), (.l2i, 0, 0, 0, .null), (.ireturn, 0, 0, 0, .null)]
theorem kX1_errorIn_31 : kx_oks kxL_X1 false cX1_errorIn 31 bX1_errorIn_31 = true := by decide +kernel
theorem dX1_errorIn_28 : decode cX1_errorIn 28 = .ok (.invokestatic 111, 3) := by decide +kernel
set_option maxRecDepth 100000 in
set_option maxHeartbeats 4000000 in
theorem ct_X1_errorIn (l : Launch) (G : kx_G) {P : kx_P} {sz : Nat} {c : Nat} {C : Nat → Int32} {wv hv : Value} {a : Nat} (ha : a < 86400000000) (hq : P c = kO 1 (kf (cr1 wv (lN a) hv) C)) {mi : Nat} (hmi : mi ≤ 200000)  : kx_M l G sX1_errorIn 2 0 0 [.ref c, .int (nI mi)] P sz (some (.int (ck_err (lN a) (nI mi)))) P sz := by
  have z1 : nI mi - nI mi / 1440 * 1440 = nI (mi % 1440) := pk_rem (d := 1440) (by omega) (by omega) (by omega)
  have z2 : (nI (mi % 1440)).toInt64 = lN (mi % 1440) := nI_l (by omega)
  have z3 : lN (mi % 1440) * 60 = lN (mi % 1440 * 60) := lN_mul _ 60
  have z4 : lN (mi % 1440 * 60) * 1000000 = lN (mi % 1440 * 60 * 1000000) := lN_mul _ 1000000
  have z5 := cx_er ha (show mi % 1440 < 1440 by omega)
  have z6 : ck_err (lN a) (nI mi) = ((cj_fmL (lN a - lN (mi % 1440 * 60 * 1000000) + 43200000000) 86400000000 - 43200000000) / 1000).toInt32 := by unfold ck_err; dsimp only; rw [z1, z2, z5]
  rw [z6]
  refine kx_mk kx_tab kxLok_X1 (ini := false) [some (.ref c), some (.int (nI mi)), none, none, none, none] ⟨by decide, rfl, by decide, by decide⟩ (⟨_, rfl⟩) rfl rfl (fun g hB hC => ?_)
  refine hB bX1_errorIn_0 _ _ _ _ _ _ _ kX1_errorIn_0 ?_
  dsimp only [bX1_errorIn_0, kx_wp, kx_step, kx_lI, kx_lL, kx_lA, kx_gl, kx_pI, kx_pL, kx_pR, kx_pA, kx_pV, kx_s1, kx_s2, kx_sl, kx_pre, kx_c2, kx_pl, kx_cmp, kx_oF, kx_eqN, kx_nil, kx_c1, kx_ft, kx_aI, kx_aL, kx_aR, kx_ln, Nat.reduceAdd, Option.toList, List.cons_append, List.nil_append, cf1_3]
  repeat (simp only [hq, z1, z2, z3, z4, ks_eq, ks_ss]; try dsimp only [kx_wp, kx_step, kx_lI, kx_lL, kx_lA, kx_gl, kx_pI, kx_pL, kx_pR, kx_pA, kx_pV, kx_s1, kx_s2, kx_sl, kx_pre, kx_c2, kx_pl, kx_cmp, kx_oF, kx_eqN, kx_nil, kx_c1, kx_ft, kx_aI, kx_aL, kx_aR, kx_ln, Nat.reduceAdd, Option.toList, List.cons_append, List.nil_append, cf1_3])
  repeat' apply And.intro
  all_goals try (first | with_reducible assumption | (with_reducible refine ck_nzI ?_; simp; done) | (with_reducible refine ck_nzL ?_; simp; done) | (with_reducible refine vp_in_nI ?_ ?_ <;> first | omega | decide) | (with_reducible refine Nat.le_of_ble_eq_true ?_; rfl) | omega | exact Or.inl trivial | exact Or.inr trivial | exact Or.inl rfl | exact Or.inr rfl)
  refine hC.2.1 111 _ _ _ _ _ _ _ _ _ _ _ _ _ _ _ _ _ lX1_111 (ct_J9_floorMod_f86c9 l G (by decide)) rfl rfl (Nat.le_of_ble_eq_true rfl) (by decide) (by decide) (by omega) (by omega) dX1_errorIn_28 ?_
  refine hB bX1_errorIn_31 _ _ _ _ _ _ _ kX1_errorIn_31 ?_
  dsimp only [bX1_errorIn_31, kx_wp, kx_step, kx_lI, kx_lL, kx_lA, kx_gl, kx_pI, kx_pL, kx_pR, kx_pA, kx_pV, kx_s1, kx_s2, kx_sl, kx_pre, kx_c2, kx_pl, kx_cmp, kx_oF, kx_eqN, kx_nil, kx_c1, kx_ft, kx_aI, kx_aL, kx_aR, kx_ln, Nat.reduceAdd, Option.toList, List.cons_append, List.nil_append, cf1_3]
  repeat (simp only [hq, z1, z2, z3, z4, ks_eq, ks_ss]; try dsimp only [kx_wp, kx_step, kx_lI, kx_lL, kx_lA, kx_gl, kx_pI, kx_pL, kx_pR, kx_pA, kx_pV, kx_s1, kx_s2, kx_sl, kx_pre, kx_c2, kx_pl, kx_cmp, kx_oF, kx_eqN, kx_nil, kx_c1, kx_ft, kx_aI, kx_aL, kx_aR, kx_ln, Nat.reduceAdd, Option.toList, List.cons_append, List.nil_append, cf1_3])
  all_goals (repeat' apply And.intro)
  all_goals ((try clear hB hC); first | exact True.intro | with_reducible rfl | with_reducible assumption | (with_reducible refine vp_in_nI ?_ ?_ <;> first | omega | decide) | exact Nat.le_of_ble_eq_true rfl | (with_reducible refine ck_nzI ?_; simp; done) | (with_reducible refine ck_nzL ?_; simp; done) | (simp only [pk_us, pk_uLs, ↓reduceIte, not_true_eq_false, not_false_eq_true]; done) | (simp only [↓reduceIte, not_true_eq_false, not_false_eq_true]; with_reducible rfl) | omega | skip)

def cx_sx (T : Nat → Int32) (wm nx fr : Nat) : Nat → Nat → Int32
  | 0, _ => 1
  | n + 1, k => if T ((fr + k) % wm) = nI ((nx % 24 + k + 11) % 12 + 1) then cx_sx T wm nx fr n (k + 1) else 0
theorem cx_sx_b (T : Nat → Int32) (wm nx fr : Nat) : ∀ n k, cx_sx T wm nx fr n k = 0 ∨ cx_sx T wm nx fr n k = 1 := by
  intro n
  induction n with
  | zero => intro k; exact Or.inr rfl
  | succ n ih =>
    intro k
    rw [cx_sx]
    split
    · exact ih _
    · exact Or.inl rfl
theorem cx_pa_n {V : Nat → Int32} {wm a b : Nat} (h14 : V 14 = nI wm) (hwm : 1 ≤ wm ∧ wm ≤ 24) (ha : a < 2000) (hb : b < 2000) : cx_pa V (nI a) (nI b) = nI ((a + b) % wm) := by
  unfold cx_pa
  rw [h14, if_pos (show (1 : Int32) ≤ nI wm from (nI_leI (a := 1) (by omega) (by omega)).mpr hwm.1), nI_add, cj_fm_n (by omega) (by omega) (by omega)]
theorem cx_pa_s {V : Nat → Int32} {wm a b : Nat} (h14 : V 14 = nI wm) (hwm : 1 ≤ wm ∧ wm ≤ 24) (ha : a < 2000) (hb : b ≤ wm) : cx_pa V (nI a) (-(nI b)) = nI ((a + wm - b) % wm) := by
  unfold cx_pa
  rw [h14, if_pos (show (1 : Int32) ≤ nI wm from (nI_leI (a := 1) (by omega) (by omega)).mpr hwm.1), ← Int32.sub_eq_add_neg, cj_fm_s (by omega) (by omega) (by omega) hb]
theorem cx_to_n {V T : Nat → Int32} {wm p : Nat} (h14 : V 14 = nI wm) (hwm : wm ≤ 24) (hp : p < wm) : cx_to V T (nI p) = T p := by
  unfold cx_to
  rw [h14, if_neg (nI_pos (by omega)), if_neg (fun h => absurd ((nI_leI (by omega) (by omega)).mp h) (by omega)), if_neg (show ¬ Int32.ofNat 24 ≤ nI p from fun h => absurd ((nI_leI (a := 24) (by omega) (by omega)).mp h) (by omega)), nI_clamp (by omega)]
def bX1_inStepFrom_0 : List kx_O := [(.aload_n 0, 0, 0, 0, .null)]
theorem kX1_inStepFrom_0 : kx_oks kxL_X1 false cX1_inStepFrom 0 bX1_inStepFrom_0 = true := by decide +kernel
def bX1_inStepFrom_4 : List kx_O := [(.istore_n 2, 2, 0, 0, .null), (.iconst 1, 0, 0, 0, .int 1), (.istore_n 3, 3, 0, 0, .null), (.iconst 0, 0, 0, 0, .int 0), (.istore 4, 4, 0, 0, .null)]
theorem kX1_inStepFrom_4 : kx_oks kxL_X1 false cX1_inStepFrom 4 bX1_inStepFrom_4 = true := by decide +kernel
def bX1_inStepFrom_10 : List kx_O := [(.iload_n 3, 3, 0, 0, .null), (.ifCond .eq 54, 65, 0, 0, .null)]
theorem kX1_inStepFrom_10 : kx_oks kxL_X1 false cX1_inStepFrom 10 bX1_inStepFrom_10 = true := by decide +kernel
def bX1_inStepFrom_14 : List kx_O := [(.iload 4, 4, 0, 0, .null), (.bipush 24, 0, 0, 0, .int 24), (.if_icmp .ge 47, 65, 0, 0, .null)]
theorem kX1_inStepFrom_14 : kx_oks kxL_X1 false cX1_inStepFrom 14 bX1_inStepFrom_14 = true := by decide +kernel
def bX1_inStepFrom_21 : List kx_O := [(.aload_n 0, 0, 0, 0, .null), (.getfield 9, 1, 2, 0, .null), (.aload_n 0, 0, 0, 0, .null), (.getfield 9, 1, 2, 0, .null), (.iload_n 1, 1, 0, 0, .null), (.iload 4, 4, 0, 0, .null)]
theorem kX1_inStepFrom_21 : kx_oks kxL_X1 false cX1_inStepFrom 21 bX1_inStepFrom_21 = true := by decide +kernel
def bX1_inStepFrom_38 : List kx_O := [(.iload_n 2, 2, 0, 0, .null), (.iload 4, 4, 0, 0, .null), (.iadd, 0, 0, 0, .null), (.bipush 11, 0, 0, 0, .int 11), (.iadd, 0, 0, 0, .null), (.bipush 12, 0, 0, 0, .int 12), (.irem, 0, 0, 0, .null), (.iconst 1, 0, 0, 0, .int 1), (.iadd, 0, 0, 0, .null), (.if_icmp .ne 7, 57, 0, 0, .null)]
theorem kX1_inStepFrom_38 : kx_oks kxL_X1 false cX1_inStepFrom 38 bX1_inStepFrom_38 = true := by decide +kernel
def bX1_inStepFrom_53 : List kx_O := [(.iconst 1, 0, 0, 0, .int 1), (.goto 4, 58, 0, 0, .null)]
theorem kX1_inStepFrom_53 : kx_oks kxL_X1 false cX1_inStepFrom 53 bX1_inStepFrom_53 = true := by decide +kernel
def bX1_inStepFrom_57 : List kx_O := [(.iconst 0, 0, 0, 0, .int 0)]
theorem kX1_inStepFrom_57 : kx_oks kxL_X1 false cX1_inStepFrom 57 bX1_inStepFrom_57 = true := by decide +kernel
def bX1_inStepFrom_58 : List kx_O := [(.istore_n 3, 3, 0, 0, .null), (.iinc 4 1, 4, 0, 0, .int 1), (.goto (-52), 10, 0, 0, .null)]
theorem kX1_inStepFrom_58 : kx_oks kxL_X1 false cX1_inStepFrom 58 bX1_inStepFrom_58 = true := by decide +kernel
def bX1_inStepFrom_65 : List kx_O := [(.iload_n 3, 3, 0, 0, .null), (.ireturn, 0, 0, 0, .null)]
theorem kX1_inStepFrom_65 : kx_oks kxL_X1 false cX1_inStepFrom 65 bX1_inStepFrom_65 = true := by decide +kernel
theorem dX1_inStepFrom_1 : decode cX1_inStepFrom 1 = .ok (.invokevirtual 211, 3) := by decide +kernel
theorem dX1_inStepFrom_32 : decode cX1_inStepFrom 32 = .ok (.invokevirtual 197, 3) := by decide +kernel
theorem dX1_inStepFrom_35 : decode cX1_inStepFrom 35 = .ok (.invokevirtual 203, 3) := by decide +kernel
set_option maxRecDepth 100000 in
set_option maxHeartbeats 4000000 in
theorem ct_X1_inStepFrom (l : Launch) (G : kx_G) {P : kx_P} {sz : Nat} {c w : Nat} {V T Q Fo St Al Wm S C : Nat → Int32} {d : Int64} {h : Value} (H : cx_R P c w V T Q Fo St Al Wm) {wm : Nat} (h14 : V 14 = nI wm) (hwm : 1 ≤ wm ∧ wm ≤ 24) {a : Nat} (hd : d = lN a) (ha : a < 86400000000) {fr : Nat} (hfr : fr < 1000)  : kx_M l G sX1_inStepFrom 3 0 0 [.ref c, .int (nI fr)] (cW P c w S d h C) sz (some (.int (cx_sx T wm (a / 3600000000 + 1) (fr) (24) (0)))) (cW P c w S d h C) sz := by
  refine kx_mk kx_tab kxLok_X1 (ini := false) [some (.ref c), some (.int (nI fr)), none, none, none] ⟨by decide, rfl, by decide, by decide⟩ (cx_sx_b _ _ _ _ _ _ |>.elim (fun e => Or.inl (by rw [e])) (fun e => Or.inr (by rw [e]))) rfl rfl (fun g hB hC => ?_)
  have hend : ∀ (k : Nat) (x : Int32), x = cx_sx T wm (a / 3600000000 + 1) (fr) (24) (0) → ∀ y, g 65 [some (.ref c), some (.int (nI fr)), some (.int (nI ((a / 3600000000 + 1) % 24))), some (.int x), y] [] (cW P c w S d h C) sz 0 0 := by
    intro k x hx y
    refine hB bX1_inStepFrom_65 _ _ _ _ _ _ _ kX1_inStepFrom_65 ?_
    dsimp only [bX1_inStepFrom_65, kx_wp, kx_step, kx_lI, kx_lL, kx_lA, kx_gl, kx_pI, kx_pL, kx_pR, kx_pA, kx_pV, kx_s1, kx_s2, kx_sl, kx_pre, kx_c2, kx_pl, kx_cmp, kx_oF, kx_eqN, kx_nil, kx_c1, kx_ft, kx_aI, kx_aL, kx_aR, kx_ln, Nat.reduceAdd, Option.toList, List.cons_append, List.nil_append, cf1_2]
    repeat (simp only [cW_c, cW_w H, cW_t H, cW_q H, cW_f H, cW_s H, cW_65 H, cW_66 H, cW_1 H, cW_k H, cW_pc, cW_pk H, pk_us, pk_un, ne_eq, Nat.reduceEqDiff, not_false_eq_true, nI_1, ks_eq, ks_ss]; try dsimp only [kx_wp, kx_step, kx_lI, kx_lL, kx_lA, kx_gl, kx_pI, kx_pL, kx_pR, kx_pA, kx_pV, kx_s1, kx_s2, kx_sl, kx_pre, kx_c2, kx_pl, kx_cmp, kx_oF, kx_eqN, kx_nil, kx_c1, kx_ft, kx_aI, kx_aL, kx_aR, kx_ln, Nat.reduceAdd, Option.toList, List.cons_append, List.nil_append, cf1_2])
    all_goals (repeat' apply And.intro)
    all_goals ((try clear hB hC); first | exact True.intro | rfl | (rw [hx]))
  have loop10 : ∀ (n9 k : Nat), k + n9 = 24 → cx_sx T wm (a / 3600000000 + 1) (fr) (n9) (k) = cx_sx T wm (a / 3600000000 + 1) (fr) (24) (0) → g 10 [some (.ref c), some (.int (nI fr)), some (.int (nI ((a / 3600000000 + 1) % 24))), some (.int 1), some (.int (nI k))] [] (cW P c w S d h C) sz 0 0 := by
    intro n9
    induction n9 with
    | zero =>
      intro k hk he
      obtain rfl : k = 24 := by omega
      rw [cx_sx] at he
      refine hB bX1_inStepFrom_10 _ _ _ _ _ _ _ kX1_inStepFrom_10 ?_
      dsimp only [bX1_inStepFrom_10, kx_wp, kx_step, kx_lI, kx_lL, kx_lA, kx_gl, kx_pI, kx_pL, kx_pR, kx_pA, kx_pV, kx_s1, kx_s2, kx_sl, kx_pre, kx_c2, kx_pl, kx_cmp, kx_oF, kx_eqN, kx_nil, kx_c1, kx_ft, kx_aI, kx_aL, kx_aR, kx_ln, Nat.reduceAdd, Option.toList, List.cons_append, List.nil_append, cf1_2]
      repeat (simp only [cW_c, cW_w H, cW_t H, cW_q H, cW_f H, cW_s H, cW_65 H, cW_66 H, cW_1 H, cW_k H, cW_pc, cW_pk H, pk_us, pk_un, ne_eq, Nat.reduceEqDiff, not_false_eq_true, nI_1, ks_eq, ks_ss]; try dsimp only [kx_wp, kx_step, kx_lI, kx_lL, kx_lA, kx_gl, kx_pI, kx_pL, kx_pR, kx_pA, kx_pV, kx_s1, kx_s2, kx_sl, kx_pre, kx_c2, kx_pl, kx_cmp, kx_oF, kx_eqN, kx_nil, kx_c1, kx_ft, kx_aI, kx_aL, kx_aR, kx_ln, Nat.reduceAdd, Option.toList, List.cons_append, List.nil_append, cf1_2])
      repeat' apply And.intro
      all_goals try (first | with_reducible assumption | (with_reducible refine ck_nzI ?_; simp; done) | (with_reducible refine ck_nzL ?_; simp; done) | (with_reducible refine vp_in_nI ?_ ?_ <;> first | omega | decide) | (with_reducible refine Nat.le_of_ble_eq_true ?_; rfl) | omega | exact Or.inl trivial | exact Or.inr trivial | exact Or.inl rfl | exact Or.inr rfl)
      · intro zc11
        first | exact absurd rfl zc11 | exact absurd zc11 (by decide) | exact absurd (by decide) zc11 | (exfalso; first | exact absurd zc11 (by decide) | exact absurd ((nI_leI (a := 24) (b := k) (by omega) (by omega)).mpr (by omega)) zc18 | exact absurd ((nI_leI (a := 24) (b := k) (by omega) (by omega)).mp zc18) (by omega) | exact zc50 he1 | exact zc50 (fun q => he1 q) | exact he1 zc50) | (exfalso; simp_all; done)
      · intro zc11
        have ze11 := zc11
        refine hB bX1_inStepFrom_14 _ _ _ _ _ _ _ kX1_inStepFrom_14 ?_
        dsimp only [bX1_inStepFrom_14, kx_wp, kx_step, kx_lI, kx_lL, kx_lA, kx_gl, kx_pI, kx_pL, kx_pR, kx_pA, kx_pV, kx_s1, kx_s2, kx_sl, kx_pre, kx_c2, kx_pl, kx_cmp, kx_oF, kx_eqN, kx_nil, kx_c1, kx_ft, kx_aI, kx_aL, kx_aR, kx_ln, Nat.reduceAdd, Option.toList, List.cons_append, List.nil_append, cf1_2]
        repeat (simp only [cW_c, cW_w H, cW_t H, cW_q H, cW_f H, cW_s H, cW_65 H, cW_66 H, cW_1 H, cW_k H, cW_pc, cW_pk H, pk_us, pk_un, ne_eq, Nat.reduceEqDiff, not_false_eq_true, nI_1, ks_eq, ks_ss]; try dsimp only [kx_wp, kx_step, kx_lI, kx_lL, kx_lA, kx_gl, kx_pI, kx_pL, kx_pR, kx_pA, kx_pV, kx_s1, kx_s2, kx_sl, kx_pre, kx_c2, kx_pl, kx_cmp, kx_oF, kx_eqN, kx_nil, kx_c1, kx_ft, kx_aI, kx_aL, kx_aR, kx_ln, Nat.reduceAdd, Option.toList, List.cons_append, List.nil_append, cf1_2])
        repeat' apply And.intro
        all_goals try (first | with_reducible assumption | (with_reducible refine ck_nzI ?_; simp; done) | (with_reducible refine ck_nzL ?_; simp; done) | (with_reducible refine vp_in_nI ?_ ?_ <;> first | omega | decide) | (with_reducible refine Nat.le_of_ble_eq_true ?_; rfl) | omega | exact Or.inl trivial | exact Or.inr trivial | exact Or.inl rfl | exact Or.inr rfl)
        · intro zc18
          with_reducible first | have ze18 := Int32.not_lt.mpr zc18 | have ze18 := zc18
          exact hend 24 1 he _
        · intro zc18
          first | exact absurd rfl zc18 | exact absurd zc18 (by decide) | exact absurd (by decide) zc18 | (exfalso; first | exact absurd zc11 (by decide) | exact absurd ((nI_leI (a := 24) (b := k) (by omega) (by omega)).mpr (by omega)) zc18 | exact absurd ((nI_leI (a := 24) (b := k) (by omega) (by omega)).mp zc18) (by omega) | exact zc50 he1 | exact zc50 (fun q => he1 q) | exact he1 zc50) | (exfalso; simp_all; done)
    | succ n9 ih =>
      intro k hk he
      rw [cx_sx] at he
      have y1 : cx_pa V (nI fr) (nI k) = nI ((fr + k) % wm) := cx_pa_n h14 hwm (by omega) (by omega)
      have y2 : cx_to V T (nI ((fr + k) % wm)) = T ((fr + k) % wm) := cx_to_n h14 hwm.2 (Nat.mod_lt _ (by omega))
      have y3 : nI ((a / 3600000000 + 1) % 24) + nI k + 11 = nI ((a / 3600000000 + 1) % 24 + k + 11) := by rw [nI_add, show (11 : Int32) = nI 11 from rfl, nI_add]
      have y4 : nI ((a / 3600000000 + 1) % 24 + k + 11) - nI ((a / 3600000000 + 1) % 24 + k + 11) / 12 * 12 + 1 = nI (((a / 3600000000 + 1) % 24 + k + 11) % 12 + 1) := by rw [show (12 : Int32) = nI 12 from rfl, pk_rem (by omega) (by omega) (by omega), nI_1]
      by_cases he1 : T ((fr + k) % wm) = nI (((a / 3600000000 + 1) % 24 + k + 11) % 12 + 1)
      · refine hB bX1_inStepFrom_10 _ _ _ _ _ _ _ kX1_inStepFrom_10 ?_
        dsimp only [bX1_inStepFrom_10, kx_wp, kx_step, kx_lI, kx_lL, kx_lA, kx_gl, kx_pI, kx_pL, kx_pR, kx_pA, kx_pV, kx_s1, kx_s2, kx_sl, kx_pre, kx_c2, kx_pl, kx_cmp, kx_oF, kx_eqN, kx_nil, kx_c1, kx_ft, kx_aI, kx_aL, kx_aR, kx_ln, Nat.reduceAdd, Option.toList, List.cons_append, List.nil_append, cf1_2]
        repeat (simp only [cW_c, cW_w H, cW_t H, cW_q H, cW_f H, cW_s H, cW_65 H, cW_66 H, cW_1 H, cW_k H, cW_pc, cW_pk H, pk_us, pk_un, ne_eq, Nat.reduceEqDiff, not_false_eq_true, nI_1, ks_eq, ks_ss, y1, y2, y3, y4]; try dsimp only [kx_wp, kx_step, kx_lI, kx_lL, kx_lA, kx_gl, kx_pI, kx_pL, kx_pR, kx_pA, kx_pV, kx_s1, kx_s2, kx_sl, kx_pre, kx_c2, kx_pl, kx_cmp, kx_oF, kx_eqN, kx_nil, kx_c1, kx_ft, kx_aI, kx_aL, kx_aR, kx_ln, Nat.reduceAdd, Option.toList, List.cons_append, List.nil_append, cf1_2])
        repeat' apply And.intro
        all_goals try (first | with_reducible assumption | (with_reducible refine ck_nzI ?_; simp; done) | (with_reducible refine ck_nzL ?_; simp; done) | (with_reducible refine vp_in_nI ?_ ?_ <;> first | omega | decide) | (with_reducible refine Nat.le_of_ble_eq_true ?_; rfl) | omega | exact Or.inl trivial | exact Or.inr trivial | exact Or.inl rfl | exact Or.inr rfl)
        · intro zc11
          first | exact absurd rfl zc11 | exact absurd zc11 (by decide) | exact absurd (by decide) zc11 | (exfalso; first | exact absurd zc11 (by decide) | exact absurd ((nI_leI (a := 24) (b := k) (by omega) (by omega)).mpr (by omega)) zc18 | exact absurd ((nI_leI (a := 24) (b := k) (by omega) (by omega)).mp zc18) (by omega) | exact zc50 he1 | exact zc50 (fun q => he1 q) | exact he1 zc50) | (exfalso; simp_all; done)
        · intro zc11
          have ze11 := zc11
          refine hB bX1_inStepFrom_14 _ _ _ _ _ _ _ kX1_inStepFrom_14 ?_
          dsimp only [bX1_inStepFrom_14, kx_wp, kx_step, kx_lI, kx_lL, kx_lA, kx_gl, kx_pI, kx_pL, kx_pR, kx_pA, kx_pV, kx_s1, kx_s2, kx_sl, kx_pre, kx_c2, kx_pl, kx_cmp, kx_oF, kx_eqN, kx_nil, kx_c1, kx_ft, kx_aI, kx_aL, kx_aR, kx_ln, Nat.reduceAdd, Option.toList, List.cons_append, List.nil_append, cf1_2]
          repeat (simp only [cW_c, cW_w H, cW_t H, cW_q H, cW_f H, cW_s H, cW_65 H, cW_66 H, cW_1 H, cW_k H, cW_pc, cW_pk H, pk_us, pk_un, ne_eq, Nat.reduceEqDiff, not_false_eq_true, nI_1, ks_eq, ks_ss, y1, y2, y3, y4]; try dsimp only [kx_wp, kx_step, kx_lI, kx_lL, kx_lA, kx_gl, kx_pI, kx_pL, kx_pR, kx_pA, kx_pV, kx_s1, kx_s2, kx_sl, kx_pre, kx_c2, kx_pl, kx_cmp, kx_oF, kx_eqN, kx_nil, kx_c1, kx_ft, kx_aI, kx_aL, kx_aR, kx_ln, Nat.reduceAdd, Option.toList, List.cons_append, List.nil_append, cf1_2])
          repeat' apply And.intro
          all_goals try (first | with_reducible assumption | (with_reducible refine ck_nzI ?_; simp; done) | (with_reducible refine ck_nzL ?_; simp; done) | (with_reducible refine vp_in_nI ?_ ?_ <;> first | omega | decide) | (with_reducible refine Nat.le_of_ble_eq_true ?_; rfl) | omega | exact Or.inl trivial | exact Or.inr trivial | exact Or.inl rfl | exact Or.inr rfl)
          · intro zc18
            first | exact absurd rfl zc18 | exact absurd zc18 (by decide) | exact absurd (by decide) zc18 | (exfalso; first | exact absurd zc11 (by decide) | exact absurd ((nI_leI (a := 24) (b := k) (by omega) (by omega)).mpr (by omega)) zc18 | exact absurd ((nI_leI (a := 24) (b := k) (by omega) (by omega)).mp zc18) (by omega) | exact zc50 he1 | exact zc50 (fun q => he1 q) | exact he1 zc50) | (exfalso; simp_all; done)
          · intro zc18
            with_reducible first | have ze18 := Int32.not_le.mp zc18 | have ze18 := zc18
            refine hB bX1_inStepFrom_21 _ _ _ _ _ _ _ kX1_inStepFrom_21 ?_
            dsimp only [bX1_inStepFrom_21, kx_wp, kx_step, kx_lI, kx_lL, kx_lA, kx_gl, kx_pI, kx_pL, kx_pR, kx_pA, kx_pV, kx_s1, kx_s2, kx_sl, kx_pre, kx_c2, kx_pl, kx_cmp, kx_oF, kx_eqN, kx_nil, kx_c1, kx_ft, kx_aI, kx_aL, kx_aR, kx_ln, Nat.reduceAdd, Option.toList, List.cons_append, List.nil_append, cf1_2]
            repeat (simp only [cW_c, cW_w H, cW_t H, cW_q H, cW_f H, cW_s H, cW_65 H, cW_66 H, cW_1 H, cW_k H, cW_pc, cW_pk H, pk_us, pk_un, ne_eq, Nat.reduceEqDiff, not_false_eq_true, nI_1, ks_eq, ks_ss, y1, y2, y3, y4]; try dsimp only [kx_wp, kx_step, kx_lI, kx_lL, kx_lA, kx_gl, kx_pI, kx_pL, kx_pR, kx_pA, kx_pV, kx_s1, kx_s2, kx_sl, kx_pre, kx_c2, kx_pl, kx_cmp, kx_oF, kx_eqN, kx_nil, kx_c1, kx_ft, kx_aI, kx_aL, kx_aR, kx_ln, Nat.reduceAdd, Option.toList, List.cons_append, List.nil_append, cf1_2])
            repeat' apply And.intro
            all_goals try (first | with_reducible assumption | (with_reducible refine ck_nzI ?_; simp; done) | (with_reducible refine ck_nzL ?_; simp; done) | (with_reducible refine vp_in_nI ?_ ?_ <;> first | omega | decide) | (with_reducible refine Nat.le_of_ble_eq_true ?_; rfl) | omega | exact Or.inl trivial | exact Or.inr trivial | exact Or.inl rfl | exact Or.inr rfl)
            refine hC.1 197 _ _ _ _ _ _ _ 9 _ _ _ _ _ _ _ _ _ _ _ _ lX1_197 (ct_X9_placeAfter l G (cW_w H)) ⟨by decide, rfl⟩ (by first | exact cW_c | exact cW_w H | exact cW_f H | exact cW_65 H) rfl rfl (Nat.le_of_ble_eq_true rfl) (by decide) (by decide) (by omega) (by omega) dX1_inStepFrom_32 ?_
            refine hC.1 203 _ _ _ _ _ _ _ 9 _ _ _ _ _ _ _ _ _ _ _ _ lX1_203 (ct_X9_toothAt l G (cW_w H) (cW_t H)) ⟨by decide, rfl⟩ (by first | exact cW_c | exact cW_w H | exact cW_f H | exact cW_65 H) rfl rfl (Nat.le_of_ble_eq_true rfl) (by decide) (by decide) (by omega) (by omega) dX1_inStepFrom_35 ?_
            refine hB bX1_inStepFrom_38 _ _ _ _ _ _ _ kX1_inStepFrom_38 ?_
            dsimp only [bX1_inStepFrom_38, kx_wp, kx_step, kx_lI, kx_lL, kx_lA, kx_gl, kx_pI, kx_pL, kx_pR, kx_pA, kx_pV, kx_s1, kx_s2, kx_sl, kx_pre, kx_c2, kx_pl, kx_cmp, kx_oF, kx_eqN, kx_nil, kx_c1, kx_ft, kx_aI, kx_aL, kx_aR, kx_ln, Nat.reduceAdd, Option.toList, List.cons_append, List.nil_append, cf1_2]
            repeat (simp only [cW_c, cW_w H, cW_t H, cW_q H, cW_f H, cW_s H, cW_65 H, cW_66 H, cW_1 H, cW_k H, cW_pc, cW_pk H, pk_us, pk_un, ne_eq, Nat.reduceEqDiff, not_false_eq_true, nI_1, ks_eq, ks_ss, y1, y2, y3, y4]; try dsimp only [kx_wp, kx_step, kx_lI, kx_lL, kx_lA, kx_gl, kx_pI, kx_pL, kx_pR, kx_pA, kx_pV, kx_s1, kx_s2, kx_sl, kx_pre, kx_c2, kx_pl, kx_cmp, kx_oF, kx_eqN, kx_nil, kx_c1, kx_ft, kx_aI, kx_aL, kx_aR, kx_ln, Nat.reduceAdd, Option.toList, List.cons_append, List.nil_append, cf1_2])
            repeat' apply And.intro
            all_goals try (first | with_reducible assumption | (with_reducible refine ck_nzI ?_; simp; done) | (with_reducible refine ck_nzL ?_; simp; done) | (with_reducible refine vp_in_nI ?_ ?_ <;> first | omega | decide) | (with_reducible refine Nat.le_of_ble_eq_true ?_; rfl) | omega | exact Or.inl trivial | exact Or.inr trivial | exact Or.inl rfl | exact Or.inr rfl)
            · intro zc50
              first | exact absurd rfl zc50 | exact absurd zc50 (by decide) | exact absurd (by decide) zc50 | (exfalso; first | exact absurd zc11 (by decide) | exact absurd ((nI_leI (a := 24) (b := k) (by omega) (by omega)).mpr (by omega)) zc18 | exact absurd ((nI_leI (a := 24) (b := k) (by omega) (by omega)).mp zc18) (by omega) | exact zc50 he1 | exact zc50 (fun q => he1 q) | exact he1 zc50) | (exfalso; simp_all; done)
            · intro zc50
              with_reducible first | have ze50 := Decidable.not_not.mp zc50 | have ze50 := zc50
              refine hB bX1_inStepFrom_53 _ _ _ _ _ _ _ kX1_inStepFrom_53 ?_
              dsimp only [bX1_inStepFrom_53, kx_wp, kx_step, kx_lI, kx_lL, kx_lA, kx_gl, kx_pI, kx_pL, kx_pR, kx_pA, kx_pV, kx_s1, kx_s2, kx_sl, kx_pre, kx_c2, kx_pl, kx_cmp, kx_oF, kx_eqN, kx_nil, kx_c1, kx_ft, kx_aI, kx_aL, kx_aR, kx_ln, Nat.reduceAdd, Option.toList, List.cons_append, List.nil_append, cf1_2]
              repeat (simp only [cW_c, cW_w H, cW_t H, cW_q H, cW_f H, cW_s H, cW_65 H, cW_66 H, cW_1 H, cW_k H, cW_pc, cW_pk H, pk_us, pk_un, ne_eq, Nat.reduceEqDiff, not_false_eq_true, nI_1, ks_eq, ks_ss, y1, y2, y3, y4]; try dsimp only [kx_wp, kx_step, kx_lI, kx_lL, kx_lA, kx_gl, kx_pI, kx_pL, kx_pR, kx_pA, kx_pV, kx_s1, kx_s2, kx_sl, kx_pre, kx_c2, kx_pl, kx_cmp, kx_oF, kx_eqN, kx_nil, kx_c1, kx_ft, kx_aI, kx_aL, kx_aR, kx_ln, Nat.reduceAdd, Option.toList, List.cons_append, List.nil_append, cf1_2])
              repeat' apply And.intro
              all_goals try (first | with_reducible assumption | (with_reducible refine ck_nzI ?_; simp; done) | (with_reducible refine ck_nzL ?_; simp; done) | (with_reducible refine vp_in_nI ?_ ?_ <;> first | omega | decide) | (with_reducible refine Nat.le_of_ble_eq_true ?_; rfl) | omega | exact Or.inl trivial | exact Or.inr trivial | exact Or.inl rfl | exact Or.inr rfl)
              refine hB bX1_inStepFrom_58 _ _ _ _ _ _ _ kX1_inStepFrom_58 ?_
              dsimp only [bX1_inStepFrom_58, kx_wp, kx_step, kx_lI, kx_lL, kx_lA, kx_gl, kx_pI, kx_pL, kx_pR, kx_pA, kx_pV, kx_s1, kx_s2, kx_sl, kx_pre, kx_c2, kx_pl, kx_cmp, kx_oF, kx_eqN, kx_nil, kx_c1, kx_ft, kx_aI, kx_aL, kx_aR, kx_ln, Nat.reduceAdd, Option.toList, List.cons_append, List.nil_append, cf1_2]
              repeat (simp only [cW_c, cW_w H, cW_t H, cW_q H, cW_f H, cW_s H, cW_65 H, cW_66 H, cW_1 H, cW_k H, cW_pc, cW_pk H, pk_us, pk_un, ne_eq, Nat.reduceEqDiff, not_false_eq_true, nI_1, ks_eq, ks_ss, y1, y2, y3, y4]; try dsimp only [kx_wp, kx_step, kx_lI, kx_lL, kx_lA, kx_gl, kx_pI, kx_pL, kx_pR, kx_pA, kx_pV, kx_s1, kx_s2, kx_sl, kx_pre, kx_c2, kx_pl, kx_cmp, kx_oF, kx_eqN, kx_nil, kx_c1, kx_ft, kx_aI, kx_aL, kx_aR, kx_ln, Nat.reduceAdd, Option.toList, List.cons_append, List.nil_append, cf1_2])
              repeat' apply And.intro
              all_goals try (first | with_reducible assumption | (with_reducible refine ck_nzI ?_; simp; done) | (with_reducible refine ck_nzL ?_; simp; done) | (with_reducible refine vp_in_nI ?_ ?_ <;> first | omega | decide) | (with_reducible refine Nat.le_of_ble_eq_true ?_; rfl) | omega | exact Or.inl trivial | exact Or.inr trivial | exact Or.inl rfl | exact Or.inr rfl)
              rw [if_pos he1] at he
              exact ih (k + 1) (by omega) he
      · refine hB bX1_inStepFrom_10 _ _ _ _ _ _ _ kX1_inStepFrom_10 ?_
        dsimp only [bX1_inStepFrom_10, kx_wp, kx_step, kx_lI, kx_lL, kx_lA, kx_gl, kx_pI, kx_pL, kx_pR, kx_pA, kx_pV, kx_s1, kx_s2, kx_sl, kx_pre, kx_c2, kx_pl, kx_cmp, kx_oF, kx_eqN, kx_nil, kx_c1, kx_ft, kx_aI, kx_aL, kx_aR, kx_ln, Nat.reduceAdd, Option.toList, List.cons_append, List.nil_append, cf1_2]
        repeat (simp only [cW_c, cW_w H, cW_t H, cW_q H, cW_f H, cW_s H, cW_65 H, cW_66 H, cW_1 H, cW_k H, cW_pc, cW_pk H, pk_us, pk_un, ne_eq, Nat.reduceEqDiff, not_false_eq_true, nI_1, ks_eq, ks_ss, y1, y2, y3, y4]; try dsimp only [kx_wp, kx_step, kx_lI, kx_lL, kx_lA, kx_gl, kx_pI, kx_pL, kx_pR, kx_pA, kx_pV, kx_s1, kx_s2, kx_sl, kx_pre, kx_c2, kx_pl, kx_cmp, kx_oF, kx_eqN, kx_nil, kx_c1, kx_ft, kx_aI, kx_aL, kx_aR, kx_ln, Nat.reduceAdd, Option.toList, List.cons_append, List.nil_append, cf1_2])
        repeat' apply And.intro
        all_goals try (first | with_reducible assumption | (with_reducible refine ck_nzI ?_; simp; done) | (with_reducible refine ck_nzL ?_; simp; done) | (with_reducible refine vp_in_nI ?_ ?_ <;> first | omega | decide) | (with_reducible refine Nat.le_of_ble_eq_true ?_; rfl) | omega | exact Or.inl trivial | exact Or.inr trivial | exact Or.inl rfl | exact Or.inr rfl)
        · intro zc11
          first | exact absurd rfl zc11 | exact absurd zc11 (by decide) | exact absurd (by decide) zc11 | (exfalso; first | exact absurd zc11 (by decide) | exact absurd ((nI_leI (a := 24) (b := k) (by omega) (by omega)).mpr (by omega)) zc18 | exact absurd ((nI_leI (a := 24) (b := k) (by omega) (by omega)).mp zc18) (by omega) | exact zc50 he1 | exact zc50 (fun q => he1 q) | exact he1 zc50) | (exfalso; simp_all; done)
        · intro zc11
          have ze11 := zc11
          refine hB bX1_inStepFrom_14 _ _ _ _ _ _ _ kX1_inStepFrom_14 ?_
          dsimp only [bX1_inStepFrom_14, kx_wp, kx_step, kx_lI, kx_lL, kx_lA, kx_gl, kx_pI, kx_pL, kx_pR, kx_pA, kx_pV, kx_s1, kx_s2, kx_sl, kx_pre, kx_c2, kx_pl, kx_cmp, kx_oF, kx_eqN, kx_nil, kx_c1, kx_ft, kx_aI, kx_aL, kx_aR, kx_ln, Nat.reduceAdd, Option.toList, List.cons_append, List.nil_append, cf1_2]
          repeat (simp only [cW_c, cW_w H, cW_t H, cW_q H, cW_f H, cW_s H, cW_65 H, cW_66 H, cW_1 H, cW_k H, cW_pc, cW_pk H, pk_us, pk_un, ne_eq, Nat.reduceEqDiff, not_false_eq_true, nI_1, ks_eq, ks_ss, y1, y2, y3, y4]; try dsimp only [kx_wp, kx_step, kx_lI, kx_lL, kx_lA, kx_gl, kx_pI, kx_pL, kx_pR, kx_pA, kx_pV, kx_s1, kx_s2, kx_sl, kx_pre, kx_c2, kx_pl, kx_cmp, kx_oF, kx_eqN, kx_nil, kx_c1, kx_ft, kx_aI, kx_aL, kx_aR, kx_ln, Nat.reduceAdd, Option.toList, List.cons_append, List.nil_append, cf1_2])
          repeat' apply And.intro
          all_goals try (first | with_reducible assumption | (with_reducible refine ck_nzI ?_; simp; done) | (with_reducible refine ck_nzL ?_; simp; done) | (with_reducible refine vp_in_nI ?_ ?_ <;> first | omega | decide) | (with_reducible refine Nat.le_of_ble_eq_true ?_; rfl) | omega | exact Or.inl trivial | exact Or.inr trivial | exact Or.inl rfl | exact Or.inr rfl)
          · intro zc18
            first | exact absurd rfl zc18 | exact absurd zc18 (by decide) | exact absurd (by decide) zc18 | (exfalso; first | exact absurd zc11 (by decide) | exact absurd ((nI_leI (a := 24) (b := k) (by omega) (by omega)).mpr (by omega)) zc18 | exact absurd ((nI_leI (a := 24) (b := k) (by omega) (by omega)).mp zc18) (by omega) | exact zc50 he1 | exact zc50 (fun q => he1 q) | exact he1 zc50) | (exfalso; simp_all; done)
          · intro zc18
            with_reducible first | have ze18 := Int32.not_le.mp zc18 | have ze18 := zc18
            refine hB bX1_inStepFrom_21 _ _ _ _ _ _ _ kX1_inStepFrom_21 ?_
            dsimp only [bX1_inStepFrom_21, kx_wp, kx_step, kx_lI, kx_lL, kx_lA, kx_gl, kx_pI, kx_pL, kx_pR, kx_pA, kx_pV, kx_s1, kx_s2, kx_sl, kx_pre, kx_c2, kx_pl, kx_cmp, kx_oF, kx_eqN, kx_nil, kx_c1, kx_ft, kx_aI, kx_aL, kx_aR, kx_ln, Nat.reduceAdd, Option.toList, List.cons_append, List.nil_append, cf1_2]
            repeat (simp only [cW_c, cW_w H, cW_t H, cW_q H, cW_f H, cW_s H, cW_65 H, cW_66 H, cW_1 H, cW_k H, cW_pc, cW_pk H, pk_us, pk_un, ne_eq, Nat.reduceEqDiff, not_false_eq_true, nI_1, ks_eq, ks_ss, y1, y2, y3, y4]; try dsimp only [kx_wp, kx_step, kx_lI, kx_lL, kx_lA, kx_gl, kx_pI, kx_pL, kx_pR, kx_pA, kx_pV, kx_s1, kx_s2, kx_sl, kx_pre, kx_c2, kx_pl, kx_cmp, kx_oF, kx_eqN, kx_nil, kx_c1, kx_ft, kx_aI, kx_aL, kx_aR, kx_ln, Nat.reduceAdd, Option.toList, List.cons_append, List.nil_append, cf1_2])
            repeat' apply And.intro
            all_goals try (first | with_reducible assumption | (with_reducible refine ck_nzI ?_; simp; done) | (with_reducible refine ck_nzL ?_; simp; done) | (with_reducible refine vp_in_nI ?_ ?_ <;> first | omega | decide) | (with_reducible refine Nat.le_of_ble_eq_true ?_; rfl) | omega | exact Or.inl trivial | exact Or.inr trivial | exact Or.inl rfl | exact Or.inr rfl)
            refine hC.1 197 _ _ _ _ _ _ _ 9 _ _ _ _ _ _ _ _ _ _ _ _ lX1_197 (ct_X9_placeAfter l G (cW_w H)) ⟨by decide, rfl⟩ (by first | exact cW_c | exact cW_w H | exact cW_f H | exact cW_65 H) rfl rfl (Nat.le_of_ble_eq_true rfl) (by decide) (by decide) (by omega) (by omega) dX1_inStepFrom_32 ?_
            refine hC.1 203 _ _ _ _ _ _ _ 9 _ _ _ _ _ _ _ _ _ _ _ _ lX1_203 (ct_X9_toothAt l G (cW_w H) (cW_t H)) ⟨by decide, rfl⟩ (by first | exact cW_c | exact cW_w H | exact cW_f H | exact cW_65 H) rfl rfl (Nat.le_of_ble_eq_true rfl) (by decide) (by decide) (by omega) (by omega) dX1_inStepFrom_35 ?_
            refine hB bX1_inStepFrom_38 _ _ _ _ _ _ _ kX1_inStepFrom_38 ?_
            dsimp only [bX1_inStepFrom_38, kx_wp, kx_step, kx_lI, kx_lL, kx_lA, kx_gl, kx_pI, kx_pL, kx_pR, kx_pA, kx_pV, kx_s1, kx_s2, kx_sl, kx_pre, kx_c2, kx_pl, kx_cmp, kx_oF, kx_eqN, kx_nil, kx_c1, kx_ft, kx_aI, kx_aL, kx_aR, kx_ln, Nat.reduceAdd, Option.toList, List.cons_append, List.nil_append, cf1_2]
            repeat (simp only [cW_c, cW_w H, cW_t H, cW_q H, cW_f H, cW_s H, cW_65 H, cW_66 H, cW_1 H, cW_k H, cW_pc, cW_pk H, pk_us, pk_un, ne_eq, Nat.reduceEqDiff, not_false_eq_true, nI_1, ks_eq, ks_ss, y1, y2, y3, y4]; try dsimp only [kx_wp, kx_step, kx_lI, kx_lL, kx_lA, kx_gl, kx_pI, kx_pL, kx_pR, kx_pA, kx_pV, kx_s1, kx_s2, kx_sl, kx_pre, kx_c2, kx_pl, kx_cmp, kx_oF, kx_eqN, kx_nil, kx_c1, kx_ft, kx_aI, kx_aL, kx_aR, kx_ln, Nat.reduceAdd, Option.toList, List.cons_append, List.nil_append, cf1_2])
            repeat' apply And.intro
            all_goals try (first | with_reducible assumption | (with_reducible refine ck_nzI ?_; simp; done) | (with_reducible refine ck_nzL ?_; simp; done) | (with_reducible refine vp_in_nI ?_ ?_ <;> first | omega | decide) | (with_reducible refine Nat.le_of_ble_eq_true ?_; rfl) | omega | exact Or.inl trivial | exact Or.inr trivial | exact Or.inl rfl | exact Or.inr rfl)
            · intro zc50
              have ze50 := zc50
              refine hB bX1_inStepFrom_57 _ _ _ _ _ _ _ kX1_inStepFrom_57 ?_
              dsimp only [bX1_inStepFrom_57, kx_wp, kx_step, kx_lI, kx_lL, kx_lA, kx_gl, kx_pI, kx_pL, kx_pR, kx_pA, kx_pV, kx_s1, kx_s2, kx_sl, kx_pre, kx_c2, kx_pl, kx_cmp, kx_oF, kx_eqN, kx_nil, kx_c1, kx_ft, kx_aI, kx_aL, kx_aR, kx_ln, Nat.reduceAdd, Option.toList, List.cons_append, List.nil_append, cf1_2]
              repeat (simp only [cW_c, cW_w H, cW_t H, cW_q H, cW_f H, cW_s H, cW_65 H, cW_66 H, cW_1 H, cW_k H, cW_pc, cW_pk H, pk_us, pk_un, ne_eq, Nat.reduceEqDiff, not_false_eq_true, nI_1, ks_eq, ks_ss, y1, y2, y3, y4]; try dsimp only [kx_wp, kx_step, kx_lI, kx_lL, kx_lA, kx_gl, kx_pI, kx_pL, kx_pR, kx_pA, kx_pV, kx_s1, kx_s2, kx_sl, kx_pre, kx_c2, kx_pl, kx_cmp, kx_oF, kx_eqN, kx_nil, kx_c1, kx_ft, kx_aI, kx_aL, kx_aR, kx_ln, Nat.reduceAdd, Option.toList, List.cons_append, List.nil_append, cf1_2])
              repeat' apply And.intro
              all_goals try (first | with_reducible assumption | (with_reducible refine ck_nzI ?_; simp; done) | (with_reducible refine ck_nzL ?_; simp; done) | (with_reducible refine vp_in_nI ?_ ?_ <;> first | omega | decide) | (with_reducible refine Nat.le_of_ble_eq_true ?_; rfl) | omega | exact Or.inl trivial | exact Or.inr trivial | exact Or.inl rfl | exact Or.inr rfl)
              refine hB bX1_inStepFrom_58 _ _ _ _ _ _ _ kX1_inStepFrom_58 ?_
              dsimp only [bX1_inStepFrom_58, kx_wp, kx_step, kx_lI, kx_lL, kx_lA, kx_gl, kx_pI, kx_pL, kx_pR, kx_pA, kx_pV, kx_s1, kx_s2, kx_sl, kx_pre, kx_c2, kx_pl, kx_cmp, kx_oF, kx_eqN, kx_nil, kx_c1, kx_ft, kx_aI, kx_aL, kx_aR, kx_ln, Nat.reduceAdd, Option.toList, List.cons_append, List.nil_append, cf1_2]
              repeat (simp only [cW_c, cW_w H, cW_t H, cW_q H, cW_f H, cW_s H, cW_65 H, cW_66 H, cW_1 H, cW_k H, cW_pc, cW_pk H, pk_us, pk_un, ne_eq, Nat.reduceEqDiff, not_false_eq_true, nI_1, ks_eq, ks_ss, y1, y2, y3, y4]; try dsimp only [kx_wp, kx_step, kx_lI, kx_lL, kx_lA, kx_gl, kx_pI, kx_pL, kx_pR, kx_pA, kx_pV, kx_s1, kx_s2, kx_sl, kx_pre, kx_c2, kx_pl, kx_cmp, kx_oF, kx_eqN, kx_nil, kx_c1, kx_ft, kx_aI, kx_aL, kx_aR, kx_ln, Nat.reduceAdd, Option.toList, List.cons_append, List.nil_append, cf1_2])
              repeat' apply And.intro
              all_goals try (first | with_reducible assumption | (with_reducible refine ck_nzI ?_; simp; done) | (with_reducible refine ck_nzL ?_; simp; done) | (with_reducible refine vp_in_nI ?_ ?_ <;> first | omega | decide) | (with_reducible refine Nat.le_of_ble_eq_true ?_; rfl) | omega | exact Or.inl trivial | exact Or.inr trivial | exact Or.inl rfl | exact Or.inr rfl)
              rw [if_neg he1] at he
              refine hB bX1_inStepFrom_10 _ _ _ _ _ _ _ kX1_inStepFrom_10 ?_
              dsimp only [bX1_inStepFrom_10, kx_wp, kx_step, kx_lI, kx_lL, kx_lA, kx_gl, kx_pI, kx_pL, kx_pR, kx_pA, kx_pV, kx_s1, kx_s2, kx_sl, kx_pre, kx_c2, kx_pl, kx_cmp, kx_oF, kx_eqN, kx_nil, kx_c1, kx_ft, kx_aI, kx_aL, kx_aR, kx_ln, Nat.reduceAdd, Option.toList, List.cons_append, List.nil_append]
              refine ⟨fun _ => hend (k + 1) 0 he _, fun q => absurd rfl q⟩
            · intro zc50
              first | exact absurd rfl zc50 | exact absurd zc50 (by decide) | exact absurd (by decide) zc50 | (exfalso; first | exact absurd zc11 (by decide) | exact absurd ((nI_leI (a := 24) (b := k) (by omega) (by omega)).mpr (by omega)) zc18 | exact absurd ((nI_leI (a := 24) (b := k) (by omega) (by omega)).mp zc18) (by omega) | exact zc50 he1 | exact zc50 (fun q => he1 q) | exact he1 zc50) | (exfalso; simp_all; done)
  refine hB bX1_inStepFrom_0 _ _ _ _ _ _ _ kX1_inStepFrom_0 ?_
  dsimp only [bX1_inStepFrom_0, kx_wp, kx_step, kx_lI, kx_lL, kx_lA, kx_gl, kx_pI, kx_pL, kx_pR, kx_pA, kx_pV, kx_s1, kx_s2, kx_sl, kx_pre, kx_c2, kx_pl, kx_cmp, kx_oF, kx_eqN, kx_nil, kx_c1, kx_ft, kx_aI, kx_aL, kx_aR, kx_ln, Nat.reduceAdd, Option.toList, List.cons_append, List.nil_append, cf1_2]
  repeat (simp only [cW_c, cW_w H, cW_t H, cW_q H, cW_f H, cW_s H, cW_65 H, cW_66 H, cW_1 H, cW_k H, cW_pc, cW_pk H, pk_us, pk_un, ne_eq, Nat.reduceEqDiff, not_false_eq_true, nI_1, ks_eq, ks_ss]; try dsimp only [kx_wp, kx_step, kx_lI, kx_lL, kx_lA, kx_gl, kx_pI, kx_pL, kx_pR, kx_pA, kx_pV, kx_s1, kx_s2, kx_sl, kx_pre, kx_c2, kx_pl, kx_cmp, kx_oF, kx_eqN, kx_nil, kx_c1, kx_ft, kx_aI, kx_aL, kx_aR, kx_ln, Nat.reduceAdd, Option.toList, List.cons_append, List.nil_append, cf1_2])
  repeat' apply And.intro
  all_goals try (first | with_reducible assumption | (with_reducible refine ck_nzI ?_; simp; done) | (with_reducible refine ck_nzL ?_; simp; done) | (with_reducible refine vp_in_nI ?_ ?_ <;> first | omega | decide) | (with_reducible refine Nat.le_of_ble_eq_true ?_; rfl) | omega | exact Or.inl trivial | exact Or.inr trivial | exact Or.inl rfl | exact Or.inr rfl)
  refine hC.1 211 _ _ _ _ _ _ _ 1 _ _ _ _ _ _ _ _ _ _ _ _ lX1_211 (ct_X1_nextHour l G H hd ha) ⟨by decide, rfl⟩ (by first | exact cW_c | exact cW_w H | exact cW_f H | exact cW_65 H) rfl rfl (Nat.le_of_ble_eq_true rfl) (by decide) (by decide) (by omega) (by omega) dX1_inStepFrom_1 ?_
  refine hB bX1_inStepFrom_4 _ _ _ _ _ _ _ kX1_inStepFrom_4 ?_
  dsimp only [bX1_inStepFrom_4, kx_wp, kx_step, kx_lI, kx_lL, kx_lA, kx_gl, kx_pI, kx_pL, kx_pR, kx_pA, kx_pV, kx_s1, kx_s2, kx_sl, kx_pre, kx_c2, kx_pl, kx_cmp, kx_oF, kx_eqN, kx_nil, kx_c1, kx_ft, kx_aI, kx_aL, kx_aR, kx_ln, Nat.reduceAdd, Option.toList, List.cons_append, List.nil_append, cf1_2]
  repeat (simp only [cW_c, cW_w H, cW_t H, cW_q H, cW_f H, cW_s H, cW_65 H, cW_66 H, cW_1 H, cW_k H, cW_pc, cW_pk H, pk_us, pk_un, ne_eq, Nat.reduceEqDiff, not_false_eq_true, nI_1, ks_eq, ks_ss]; try dsimp only [kx_wp, kx_step, kx_lI, kx_lL, kx_lA, kx_gl, kx_pI, kx_pL, kx_pR, kx_pA, kx_pV, kx_s1, kx_s2, kx_sl, kx_pre, kx_c2, kx_pl, kx_cmp, kx_oF, kx_eqN, kx_nil, kx_c1, kx_ft, kx_aI, kx_aL, kx_aR, kx_ln, Nat.reduceAdd, Option.toList, List.cons_append, List.nil_append, cf1_2])
  repeat' apply And.intro
  all_goals try (first | with_reducible assumption | (with_reducible refine ck_nzI ?_; simp; done) | (with_reducible refine ck_nzL ?_; simp; done) | (with_reducible refine vp_in_nI ?_ ?_ <;> first | omega | decide) | (with_reducible refine Nat.le_of_ble_eq_true ?_; rfl) | omega | exact Or.inl trivial | exact Or.inr trivial | exact Or.inl rfl | exact Or.inr rfl)
  exact loop10 24 0 (by omega) rfl

/-- the first of some acts -/
def cx_fi (f : Nat → Int32) : Nat → Nat → Int32
  | 0, _ => -1
  | n + 1, k => if f k = 0 then cx_fi f n (k + 1) else nI k
def cx_ro (T : Nat → Int32) (wm p : Nat) : Nat → Int32
  | 0 => 0
  | t + 1 => cx_ro T wm p t + T ((p + t) % wm)
def bX1_actsToStep_0 : List kx_O := [(.iconst 0, 0, 0, 0, .int 0), (.istore_n 2, 2, 0, 0, .null)]
theorem kX1_actsToStep_0 : kx_oks kxL_X1 false cX1_actsToStep 0 bX1_actsToStep_0 = true := by decide +kernel
def bX1_actsToStep_2 : List kx_O := [(.iload_n 2, 2, 0, 0, .null), (.aload_n 0, 0, 0, 0, .null), (.getfield 9, 1, 2, 0, .null), (.getfield 214, 9, 14, 0, .null), (.if_icmp .ge 32, 42, 0, 0, .null)]
theorem kX1_actsToStep_2 : kx_oks kxL_X1 false cX1_actsToStep 2 bX1_actsToStep_2 = true := by decide +kernel
def bX1_actsToStep_13 : List kx_O := [(.aload_n 0, 0, 0, 0, .null), (.aload_n 0, 0, 0, 0, .null), (.getfield 9, 1, 2, 0, .null), (.aload_n 0, 0, 0, 0, .null), (.getfield 32, 1, 8, 0, .null), (.iload_n 1, 1, 0, 0, .null), (.iload_n 2, 2, 0, 0, .null), (.imul, 0, 0, 0, .null)]
theorem kX1_actsToStep_13 : kx_oks kxL_X1 false cX1_actsToStep 13 bX1_actsToStep_13 = true := by decide +kernel
def bX1_actsToStep_31 : List kx_O := [(.ifCond .eq 5, 36, 0, 0, .null)]
theorem kX1_actsToStep_31 : kx_oks kxL_X1 false cX1_actsToStep 31 bX1_actsToStep_31 = true := by decide +kernel
def bX1_actsToStep_34 : List kx_O := [(.iload_n 2, 2, 0, 0, .null), (.ireturn, 0, 0, 0, .null)]
theorem kX1_actsToStep_34 : kx_oks kxL_X1 false cX1_actsToStep 34 bX1_actsToStep_34 = true := by decide +kernel
def bX1_actsToStep_36 : List kx_O := [(.iinc 2 1, 2, 0, 0, .int 1), (.goto (-37), 2, 0, 0, .null)]
theorem kX1_actsToStep_36 : kx_oks kxL_X1 false cX1_actsToStep 36 bX1_actsToStep_36 = true := by decide +kernel
def bX1_actsToStep_42 : List kx_O := [(.iconst (-1), 0, 0, 0, .int (-1)), (.ireturn, 0, 0, 0, .null)]
theorem kX1_actsToStep_42 : kx_oks kxL_X1 false cX1_actsToStep 42 bX1_actsToStep_42 = true := by decide +kernel
theorem dX1_actsToStep_25 : decode cX1_actsToStep 25 = .ok (.invokevirtual 197, 3) := by decide +kernel
theorem dX1_actsToStep_28 : decode cX1_actsToStep 28 = .ok (.invokevirtual 217, 3) := by decide +kernel
set_option maxRecDepth 100000 in
set_option maxHeartbeats 4000000 in
theorem ct_X1_actsToStep_t (l : Launch) (G : kx_G) {P : kx_P} {sz : Nat} {c w : Nat} {V T Q Fo St Al Wm S C : Nat → Int32} {d : Int64} {h : Value} (H : cx_R P c w V T Q Fo St Al Wm) {wm : Nat} (h14 : V 14 = nI wm) (hwm : 1 ≤ wm ∧ wm ≤ 24) {a : Nat} (hd : d = lN a) (ha : a < 86400000000) {p : Nat} (h8 : C 8 = nI p) (hp : p < wm)  : kx_M l G sX1_actsToStep 4 0 0 [.ref c, .int (1)] (cW P c w S d h C) sz (some (.int (cx_fi (fun k => cx_sx T wm (a / 3600000000 + 1) ((p + k) % wm) (24) (0)) wm 0))) (cW P c w S d h C) sz := by
  refine kx_mk kx_tab kxLok_X1 (ini := false) [some (.ref c), some (.int (1)), none] ⟨by decide, rfl, by decide, by decide⟩ (⟨_, rfl⟩) rfl rfl (fun g hB hC => ?_)
  have loop2 : ∀ (n9 k : Nat), k + n9 = wm → cx_fi (fun k => cx_sx T wm (a / 3600000000 + 1) ((p + k) % wm) (24) (0)) n9 k = cx_fi (fun k => cx_sx T wm (a / 3600000000 + 1) ((p + k) % wm) (24) (0)) wm 0 → g 2 [some (.ref c), some (.int (1)), some (.int (nI k))] [] (cW P c w S d h C) sz 0 0 := by
    intro n9
    induction n9 with
    | zero =>
      intro k hk he
      obtain rfl : k = wm := by omega
      rw [cx_fi] at he
      refine hB bX1_actsToStep_2 _ _ _ _ _ _ _ kX1_actsToStep_2 ?_
      dsimp only [bX1_actsToStep_2, kx_wp, kx_step, kx_lI, kx_lL, kx_lA, kx_gl, kx_pI, kx_pL, kx_pR, kx_pA, kx_pV, kx_s1, kx_s2, kx_sl, kx_pre, kx_c2, kx_pl, kx_cmp, kx_oF, kx_eqN, kx_nil, kx_c1, kx_ft, kx_aI, kx_aL, kx_aR, kx_ln, Nat.reduceAdd, Option.toList, List.cons_append, List.nil_append, cf1_2, cf9_14, cf1_8]
      repeat (simp only [cW_c, cW_w H, cW_t H, cW_q H, cW_f H, cW_s H, cW_65 H, cW_66 H, cW_1 H, cW_k H, cW_pc, cW_pk H, pk_us, pk_un, ne_eq, Nat.reduceEqDiff, not_false_eq_true, h8, h14, nI_1, ks_eq, ks_ss]; try dsimp only [kx_wp, kx_step, kx_lI, kx_lL, kx_lA, kx_gl, kx_pI, kx_pL, kx_pR, kx_pA, kx_pV, kx_s1, kx_s2, kx_sl, kx_pre, kx_c2, kx_pl, kx_cmp, kx_oF, kx_eqN, kx_nil, kx_c1, kx_ft, kx_aI, kx_aL, kx_aR, kx_ln, Nat.reduceAdd, Option.toList, List.cons_append, List.nil_append, cf1_2, cf9_14, cf1_8])
      repeat' apply And.intro
      all_goals try (first | with_reducible assumption | (with_reducible refine ck_nzI ?_; simp; done) | (with_reducible refine ck_nzL ?_; simp; done) | (with_reducible refine vp_in_nI ?_ ?_ <;> first | omega | decide) | (with_reducible refine Nat.le_of_ble_eq_true ?_; rfl) | omega | exact Or.inl trivial | exact Or.inr trivial | exact Or.inl rfl | exact Or.inr rfl)
      · intro zc10
        with_reducible first | have ze10 := Int32.not_lt.mpr zc10 | have ze10 := zc10
        refine hB bX1_actsToStep_42 _ _ _ _ _ _ _ kX1_actsToStep_42 ?_
        dsimp only [bX1_actsToStep_42, kx_wp, kx_step, kx_lI, kx_lL, kx_lA, kx_gl, kx_pI, kx_pL, kx_pR, kx_pA, kx_pV, kx_s1, kx_s2, kx_sl, kx_pre, kx_c2, kx_pl, kx_cmp, kx_oF, kx_eqN, kx_nil, kx_c1, kx_ft, kx_aI, kx_aL, kx_aR, kx_ln, Nat.reduceAdd, Option.toList, List.cons_append, List.nil_append, cf1_2, cf9_14, cf1_8]
        repeat (simp only [cW_c, cW_w H, cW_t H, cW_q H, cW_f H, cW_s H, cW_65 H, cW_66 H, cW_1 H, cW_k H, cW_pc, cW_pk H, pk_us, pk_un, ne_eq, Nat.reduceEqDiff, not_false_eq_true, h8, h14, nI_1, ks_eq, ks_ss]; try dsimp only [kx_wp, kx_step, kx_lI, kx_lL, kx_lA, kx_gl, kx_pI, kx_pL, kx_pR, kx_pA, kx_pV, kx_s1, kx_s2, kx_sl, kx_pre, kx_c2, kx_pl, kx_cmp, kx_oF, kx_eqN, kx_nil, kx_c1, kx_ft, kx_aI, kx_aL, kx_aR, kx_ln, Nat.reduceAdd, Option.toList, List.cons_append, List.nil_append, cf1_2, cf9_14, cf1_8])
        all_goals (repeat' apply And.intro)
        all_goals ((try clear hB hC); first | exact True.intro | (rw [← he]))
      · intro zc10
        first | exact absurd rfl zc10 | exact absurd zc10 (by decide) | exact absurd (by decide) zc10 | (exfalso; first | exact absurd ((nI_leI (a := k) (b := k) (by omega) (by omega)).mpr (by omega)) zc10 | exact absurd ((nI_leI (a := wm) (b := k) (by omega) (by omega)).mp zc10) (by omega)) | (exfalso; simp_all; done)
    | succ n9 ih =>
      intro k hk he
      rw [cx_fi] at he
      refine hB bX1_actsToStep_2 _ _ _ _ _ _ _ kX1_actsToStep_2 ?_
      dsimp only [bX1_actsToStep_2, kx_wp, kx_step, kx_lI, kx_lL, kx_lA, kx_gl, kx_pI, kx_pL, kx_pR, kx_pA, kx_pV, kx_s1, kx_s2, kx_sl, kx_pre, kx_c2, kx_pl, kx_cmp, kx_oF, kx_eqN, kx_nil, kx_c1, kx_ft, kx_aI, kx_aL, kx_aR, kx_ln, Nat.reduceAdd, Option.toList, List.cons_append, List.nil_append, cf1_2, cf9_14, cf1_8]
      repeat (simp only [cW_c, cW_w H, cW_t H, cW_q H, cW_f H, cW_s H, cW_65 H, cW_66 H, cW_1 H, cW_k H, cW_pc, cW_pk H, pk_us, pk_un, ne_eq, Nat.reduceEqDiff, not_false_eq_true, h8, h14, nI_1, ks_eq, ks_ss, show (1 : Int32) * nI k = nI k from by rw [show (1 : Int32) = nI 1 from rfl, pk_mul, Nat.one_mul], show cx_pa V (nI p) (nI k) = nI ((p + k) % wm) from cx_pa_n h14 hwm (by omega) (by omega)]; try dsimp only [kx_wp, kx_step, kx_lI, kx_lL, kx_lA, kx_gl, kx_pI, kx_pL, kx_pR, kx_pA, kx_pV, kx_s1, kx_s2, kx_sl, kx_pre, kx_c2, kx_pl, kx_cmp, kx_oF, kx_eqN, kx_nil, kx_c1, kx_ft, kx_aI, kx_aL, kx_aR, kx_ln, Nat.reduceAdd, Option.toList, List.cons_append, List.nil_append, cf1_2, cf9_14, cf1_8])
      repeat' apply And.intro
      all_goals try (first | with_reducible assumption | (with_reducible refine ck_nzI ?_; simp; done) | (with_reducible refine ck_nzL ?_; simp; done) | (with_reducible refine vp_in_nI ?_ ?_ <;> first | omega | decide) | (with_reducible refine Nat.le_of_ble_eq_true ?_; rfl) | omega | exact Or.inl trivial | exact Or.inr trivial | exact Or.inl rfl | exact Or.inr rfl)
      · intro zc10
        first | exact absurd rfl zc10 | exact absurd zc10 (by decide) | exact absurd (by decide) zc10 | (exfalso; first | exact absurd ((nI_leI (a := k) (b := k) (by omega) (by omega)).mpr (by omega)) zc10 | exact absurd ((nI_leI (a := wm) (b := k) (by omega) (by omega)).mp zc10) (by omega)) | (exfalso; simp_all; done)
      · intro zc10
        with_reducible first | have ze10 := Int32.not_le.mp zc10 | have ze10 := zc10
        refine hB bX1_actsToStep_13 _ _ _ _ _ _ _ kX1_actsToStep_13 ?_
        dsimp only [bX1_actsToStep_13, kx_wp, kx_step, kx_lI, kx_lL, kx_lA, kx_gl, kx_pI, kx_pL, kx_pR, kx_pA, kx_pV, kx_s1, kx_s2, kx_sl, kx_pre, kx_c2, kx_pl, kx_cmp, kx_oF, kx_eqN, kx_nil, kx_c1, kx_ft, kx_aI, kx_aL, kx_aR, kx_ln, Nat.reduceAdd, Option.toList, List.cons_append, List.nil_append, cf1_2, cf9_14, cf1_8]
        repeat (simp only [cW_c, cW_w H, cW_t H, cW_q H, cW_f H, cW_s H, cW_65 H, cW_66 H, cW_1 H, cW_k H, cW_pc, cW_pk H, pk_us, pk_un, ne_eq, Nat.reduceEqDiff, not_false_eq_true, h8, h14, nI_1, ks_eq, ks_ss, show (1 : Int32) * nI k = nI k from by rw [show (1 : Int32) = nI 1 from rfl, pk_mul, Nat.one_mul], show cx_pa V (nI p) (nI k) = nI ((p + k) % wm) from cx_pa_n h14 hwm (by omega) (by omega)]; try dsimp only [kx_wp, kx_step, kx_lI, kx_lL, kx_lA, kx_gl, kx_pI, kx_pL, kx_pR, kx_pA, kx_pV, kx_s1, kx_s2, kx_sl, kx_pre, kx_c2, kx_pl, kx_cmp, kx_oF, kx_eqN, kx_nil, kx_c1, kx_ft, kx_aI, kx_aL, kx_aR, kx_ln, Nat.reduceAdd, Option.toList, List.cons_append, List.nil_append, cf1_2, cf9_14, cf1_8])
        repeat' apply And.intro
        all_goals try (first | with_reducible assumption | (with_reducible refine ck_nzI ?_; simp; done) | (with_reducible refine ck_nzL ?_; simp; done) | (with_reducible refine vp_in_nI ?_ ?_ <;> first | omega | decide) | (with_reducible refine Nat.le_of_ble_eq_true ?_; rfl) | omega | exact Or.inl trivial | exact Or.inr trivial | exact Or.inl rfl | exact Or.inr rfl)
        refine hC.1 197 _ _ _ _ _ _ _ 9 _ _ _ _ _ _ _ _ _ _ _ _ lX1_197 (ct_X9_placeAfter l G (cW_w H)) ⟨by decide, rfl⟩ (by first | exact cW_c | exact cW_w H | exact cW_f H | exact cW_65 H) rfl rfl (Nat.le_of_ble_eq_true rfl) (by decide) (by decide) (by omega) (by omega) dX1_actsToStep_25 ?_
        rw [show cx_pa V (nI p) (nI k) = nI ((p + k) % wm) from cx_pa_n h14 hwm (by omega) (by omega)]
        refine hC.1 217 _ _ _ _ _ _ _ 1 _ _ _ _ _ _ _ _ _ _ _ _ lX1_217 (ct_X1_inStepFrom l G H h14 hwm hd ha (fr := (p + k) % wm) (Nat.lt_of_lt_of_le (Nat.mod_lt ((p + k)) (by omega)) (by omega))) ⟨by decide, rfl⟩ (by first | exact cW_c | exact cW_w H | exact cW_f H | exact cW_65 H) rfl rfl (Nat.le_of_ble_eq_true rfl) (by decide) (by decide) (by omega) (by omega) dX1_actsToStep_28 ?_
        refine hB bX1_actsToStep_31 _ _ _ _ _ _ _ kX1_actsToStep_31 ?_
        dsimp only [bX1_actsToStep_31, kx_wp, kx_step, kx_lI, kx_lL, kx_lA, kx_gl, kx_pI, kx_pL, kx_pR, kx_pA, kx_pV, kx_s1, kx_s2, kx_sl, kx_pre, kx_c2, kx_pl, kx_cmp, kx_oF, kx_eqN, kx_nil, kx_c1, kx_ft, kx_aI, kx_aL, kx_aR, kx_ln, Nat.reduceAdd, Option.toList, List.cons_append, List.nil_append, cf1_2, cf9_14, cf1_8]
        repeat (simp only [cW_c, cW_w H, cW_t H, cW_q H, cW_f H, cW_s H, cW_65 H, cW_66 H, cW_1 H, cW_k H, cW_pc, cW_pk H, pk_us, pk_un, ne_eq, Nat.reduceEqDiff, not_false_eq_true, h8, h14, nI_1, ks_eq, ks_ss, show (1 : Int32) * nI k = nI k from by rw [show (1 : Int32) = nI 1 from rfl, pk_mul, Nat.one_mul], show cx_pa V (nI p) (nI k) = nI ((p + k) % wm) from cx_pa_n h14 hwm (by omega) (by omega)]; try dsimp only [kx_wp, kx_step, kx_lI, kx_lL, kx_lA, kx_gl, kx_pI, kx_pL, kx_pR, kx_pA, kx_pV, kx_s1, kx_s2, kx_sl, kx_pre, kx_c2, kx_pl, kx_cmp, kx_oF, kx_eqN, kx_nil, kx_c1, kx_ft, kx_aI, kx_aL, kx_aR, kx_ln, Nat.reduceAdd, Option.toList, List.cons_append, List.nil_append, cf1_2, cf9_14, cf1_8])
        repeat' apply And.intro
        all_goals try (first | with_reducible assumption | (with_reducible refine ck_nzI ?_; simp; done) | (with_reducible refine ck_nzL ?_; simp; done) | (with_reducible refine vp_in_nI ?_ ?_ <;> first | omega | decide) | (with_reducible refine Nat.le_of_ble_eq_true ?_; rfl) | omega | exact Or.inl trivial | exact Or.inr trivial | exact Or.inl rfl | exact Or.inr rfl)
        · intro zc31
          have ze31 := zc31
          refine hB bX1_actsToStep_36 _ _ _ _ _ _ _ kX1_actsToStep_36 ?_
          dsimp only [bX1_actsToStep_36, kx_wp, kx_step, kx_lI, kx_lL, kx_lA, kx_gl, kx_pI, kx_pL, kx_pR, kx_pA, kx_pV, kx_s1, kx_s2, kx_sl, kx_pre, kx_c2, kx_pl, kx_cmp, kx_oF, kx_eqN, kx_nil, kx_c1, kx_ft, kx_aI, kx_aL, kx_aR, kx_ln, Nat.reduceAdd, Option.toList, List.cons_append, List.nil_append, cf1_2, cf9_14, cf1_8]
          repeat (simp only [cW_c, cW_w H, cW_t H, cW_q H, cW_f H, cW_s H, cW_65 H, cW_66 H, cW_1 H, cW_k H, cW_pc, cW_pk H, pk_us, pk_un, ne_eq, Nat.reduceEqDiff, not_false_eq_true, h8, h14, nI_1, ks_eq, ks_ss, show (1 : Int32) * nI k = nI k from by rw [show (1 : Int32) = nI 1 from rfl, pk_mul, Nat.one_mul], show cx_pa V (nI p) (nI k) = nI ((p + k) % wm) from cx_pa_n h14 hwm (by omega) (by omega)]; try dsimp only [kx_wp, kx_step, kx_lI, kx_lL, kx_lA, kx_gl, kx_pI, kx_pL, kx_pR, kx_pA, kx_pV, kx_s1, kx_s2, kx_sl, kx_pre, kx_c2, kx_pl, kx_cmp, kx_oF, kx_eqN, kx_nil, kx_c1, kx_ft, kx_aI, kx_aL, kx_aR, kx_ln, Nat.reduceAdd, Option.toList, List.cons_append, List.nil_append, cf1_2, cf9_14, cf1_8])
          repeat' apply And.intro
          all_goals try (first | with_reducible assumption | (with_reducible refine ck_nzI ?_; simp; done) | (with_reducible refine ck_nzL ?_; simp; done) | (with_reducible refine vp_in_nI ?_ ?_ <;> first | omega | decide) | (with_reducible refine Nat.le_of_ble_eq_true ?_; rfl) | omega | exact Or.inl trivial | exact Or.inr trivial | exact Or.inl rfl | exact Or.inr rfl)
          rw [if_pos (by first | exact ze31 | exact zc31)] at he
          exact ih (k + 1) (by omega) he
        · intro zc31
          have ze31 := zc31
          refine hB bX1_actsToStep_34 _ _ _ _ _ _ _ kX1_actsToStep_34 ?_
          dsimp only [bX1_actsToStep_34, kx_wp, kx_step, kx_lI, kx_lL, kx_lA, kx_gl, kx_pI, kx_pL, kx_pR, kx_pA, kx_pV, kx_s1, kx_s2, kx_sl, kx_pre, kx_c2, kx_pl, kx_cmp, kx_oF, kx_eqN, kx_nil, kx_c1, kx_ft, kx_aI, kx_aL, kx_aR, kx_ln, Nat.reduceAdd, Option.toList, List.cons_append, List.nil_append, cf1_2, cf9_14, cf1_8]
          repeat (simp only [cW_c, cW_w H, cW_t H, cW_q H, cW_f H, cW_s H, cW_65 H, cW_66 H, cW_1 H, cW_k H, cW_pc, cW_pk H, pk_us, pk_un, ne_eq, Nat.reduceEqDiff, not_false_eq_true, h8, h14, nI_1, ks_eq, ks_ss, show (1 : Int32) * nI k = nI k from by rw [show (1 : Int32) = nI 1 from rfl, pk_mul, Nat.one_mul], show cx_pa V (nI p) (nI k) = nI ((p + k) % wm) from cx_pa_n h14 hwm (by omega) (by omega)]; try dsimp only [kx_wp, kx_step, kx_lI, kx_lL, kx_lA, kx_gl, kx_pI, kx_pL, kx_pR, kx_pA, kx_pV, kx_s1, kx_s2, kx_sl, kx_pre, kx_c2, kx_pl, kx_cmp, kx_oF, kx_eqN, kx_nil, kx_c1, kx_ft, kx_aI, kx_aL, kx_aR, kx_ln, Nat.reduceAdd, Option.toList, List.cons_append, List.nil_append, cf1_2, cf9_14, cf1_8])
          all_goals (repeat' apply And.intro)
          all_goals ((try clear hB hC); first | exact True.intro | (rw [if_neg (by assumption)] at he; rw [he]))
  refine hB bX1_actsToStep_0 _ _ _ _ _ _ _ kX1_actsToStep_0 ?_
  dsimp only [bX1_actsToStep_0, kx_wp, kx_step, kx_lI, kx_lL, kx_lA, kx_gl, kx_pI, kx_pL, kx_pR, kx_pA, kx_pV, kx_s1, kx_s2, kx_sl, kx_pre, kx_c2, kx_pl, kx_cmp, kx_oF, kx_eqN, kx_nil, kx_c1, kx_ft, kx_aI, kx_aL, kx_aR, kx_ln, Nat.reduceAdd, Option.toList, List.cons_append, List.nil_append, cf1_2, cf9_14, cf1_8]
  repeat (simp only [cW_c, cW_w H, cW_t H, cW_q H, cW_f H, cW_s H, cW_65 H, cW_66 H, cW_1 H, cW_k H, cW_pc, cW_pk H, pk_us, pk_un, ne_eq, Nat.reduceEqDiff, not_false_eq_true, h8, h14, nI_1, ks_eq, ks_ss]; try dsimp only [kx_wp, kx_step, kx_lI, kx_lL, kx_lA, kx_gl, kx_pI, kx_pL, kx_pR, kx_pA, kx_pV, kx_s1, kx_s2, kx_sl, kx_pre, kx_c2, kx_pl, kx_cmp, kx_oF, kx_eqN, kx_nil, kx_c1, kx_ft, kx_aI, kx_aL, kx_aR, kx_ln, Nat.reduceAdd, Option.toList, List.cons_append, List.nil_append, cf1_2, cf9_14, cf1_8])
  repeat' apply And.intro
  all_goals try (first | with_reducible assumption | (with_reducible refine ck_nzI ?_; simp; done) | (with_reducible refine ck_nzL ?_; simp; done) | (with_reducible refine vp_in_nI ?_ ?_ <;> first | omega | decide) | (with_reducible refine Nat.le_of_ble_eq_true ?_; rfl) | omega | exact Or.inl trivial | exact Or.inr trivial | exact Or.inl rfl | exact Or.inr rfl)
  exact loop2 wm 0 (by omega) rfl

set_option maxRecDepth 100000 in
set_option maxHeartbeats 4000000 in
theorem ct_X1_actsToStep_l (l : Launch) (G : kx_G) {P : kx_P} {sz : Nat} {c w : Nat} {V T Q Fo St Al Wm S C : Nat → Int32} {d : Int64} {h : Value} (H : cx_R P c w V T Q Fo St Al Wm) {wm : Nat} (h14 : V 14 = nI wm) (hwm : 1 ≤ wm ∧ wm ≤ 24) {a : Nat} (hd : d = lN a) (ha : a < 86400000000) {p : Nat} (h8 : C 8 = nI p) (hp : p < wm)  : kx_M l G sX1_actsToStep 4 0 0 [.ref c, .int (-1)] (cW P c w S d h C) sz (some (.int (cx_fi (fun k => cx_sx T wm (a / 3600000000 + 1) ((p + wm - k) % wm) (24) (0)) wm 0))) (cW P c w S d h C) sz := by
  refine kx_mk kx_tab kxLok_X1 (ini := false) [some (.ref c), some (.int (-1)), none] ⟨by decide, rfl, by decide, by decide⟩ (⟨_, rfl⟩) rfl rfl (fun g hB hC => ?_)
  have loop2 : ∀ (n9 k : Nat), k + n9 = wm → cx_fi (fun k => cx_sx T wm (a / 3600000000 + 1) ((p + wm - k) % wm) (24) (0)) n9 k = cx_fi (fun k => cx_sx T wm (a / 3600000000 + 1) ((p + wm - k) % wm) (24) (0)) wm 0 → g 2 [some (.ref c), some (.int (-1)), some (.int (nI k))] [] (cW P c w S d h C) sz 0 0 := by
    intro n9
    induction n9 with
    | zero =>
      intro k hk he
      obtain rfl : k = wm := by omega
      rw [cx_fi] at he
      refine hB bX1_actsToStep_2 _ _ _ _ _ _ _ kX1_actsToStep_2 ?_
      dsimp only [bX1_actsToStep_2, kx_wp, kx_step, kx_lI, kx_lL, kx_lA, kx_gl, kx_pI, kx_pL, kx_pR, kx_pA, kx_pV, kx_s1, kx_s2, kx_sl, kx_pre, kx_c2, kx_pl, kx_cmp, kx_oF, kx_eqN, kx_nil, kx_c1, kx_ft, kx_aI, kx_aL, kx_aR, kx_ln, Nat.reduceAdd, Option.toList, List.cons_append, List.nil_append, cf1_2, cf9_14, cf1_8]
      repeat (simp only [cW_c, cW_w H, cW_t H, cW_q H, cW_f H, cW_s H, cW_65 H, cW_66 H, cW_1 H, cW_k H, cW_pc, cW_pk H, pk_us, pk_un, ne_eq, Nat.reduceEqDiff, not_false_eq_true, h8, h14, nI_1, ks_eq, ks_ss]; try dsimp only [kx_wp, kx_step, kx_lI, kx_lL, kx_lA, kx_gl, kx_pI, kx_pL, kx_pR, kx_pA, kx_pV, kx_s1, kx_s2, kx_sl, kx_pre, kx_c2, kx_pl, kx_cmp, kx_oF, kx_eqN, kx_nil, kx_c1, kx_ft, kx_aI, kx_aL, kx_aR, kx_ln, Nat.reduceAdd, Option.toList, List.cons_append, List.nil_append, cf1_2, cf9_14, cf1_8])
      repeat' apply And.intro
      all_goals try (first | with_reducible assumption | (with_reducible refine ck_nzI ?_; simp; done) | (with_reducible refine ck_nzL ?_; simp; done) | (with_reducible refine vp_in_nI ?_ ?_ <;> first | omega | decide) | (with_reducible refine Nat.le_of_ble_eq_true ?_; rfl) | omega | exact Or.inl trivial | exact Or.inr trivial | exact Or.inl rfl | exact Or.inr rfl)
      · intro zc10
        with_reducible first | have ze10 := Int32.not_lt.mpr zc10 | have ze10 := zc10
        refine hB bX1_actsToStep_42 _ _ _ _ _ _ _ kX1_actsToStep_42 ?_
        dsimp only [bX1_actsToStep_42, kx_wp, kx_step, kx_lI, kx_lL, kx_lA, kx_gl, kx_pI, kx_pL, kx_pR, kx_pA, kx_pV, kx_s1, kx_s2, kx_sl, kx_pre, kx_c2, kx_pl, kx_cmp, kx_oF, kx_eqN, kx_nil, kx_c1, kx_ft, kx_aI, kx_aL, kx_aR, kx_ln, Nat.reduceAdd, Option.toList, List.cons_append, List.nil_append, cf1_2, cf9_14, cf1_8]
        repeat (simp only [cW_c, cW_w H, cW_t H, cW_q H, cW_f H, cW_s H, cW_65 H, cW_66 H, cW_1 H, cW_k H, cW_pc, cW_pk H, pk_us, pk_un, ne_eq, Nat.reduceEqDiff, not_false_eq_true, h8, h14, nI_1, ks_eq, ks_ss]; try dsimp only [kx_wp, kx_step, kx_lI, kx_lL, kx_lA, kx_gl, kx_pI, kx_pL, kx_pR, kx_pA, kx_pV, kx_s1, kx_s2, kx_sl, kx_pre, kx_c2, kx_pl, kx_cmp, kx_oF, kx_eqN, kx_nil, kx_c1, kx_ft, kx_aI, kx_aL, kx_aR, kx_ln, Nat.reduceAdd, Option.toList, List.cons_append, List.nil_append, cf1_2, cf9_14, cf1_8])
        all_goals (repeat' apply And.intro)
        all_goals ((try clear hB hC); first | exact True.intro | (rw [← he]))
      · intro zc10
        first | exact absurd rfl zc10 | exact absurd zc10 (by decide) | exact absurd (by decide) zc10 | (exfalso; first | exact absurd ((nI_leI (a := k) (b := k) (by omega) (by omega)).mpr (by omega)) zc10 | exact absurd ((nI_leI (a := wm) (b := k) (by omega) (by omega)).mp zc10) (by omega)) | (exfalso; simp_all; done)
    | succ n9 ih =>
      intro k hk he
      rw [cx_fi] at he
      refine hB bX1_actsToStep_2 _ _ _ _ _ _ _ kX1_actsToStep_2 ?_
      dsimp only [bX1_actsToStep_2, kx_wp, kx_step, kx_lI, kx_lL, kx_lA, kx_gl, kx_pI, kx_pL, kx_pR, kx_pA, kx_pV, kx_s1, kx_s2, kx_sl, kx_pre, kx_c2, kx_pl, kx_cmp, kx_oF, kx_eqN, kx_nil, kx_c1, kx_ft, kx_aI, kx_aL, kx_aR, kx_ln, Nat.reduceAdd, Option.toList, List.cons_append, List.nil_append, cf1_2, cf9_14, cf1_8]
      repeat (simp only [cW_c, cW_w H, cW_t H, cW_q H, cW_f H, cW_s H, cW_65 H, cW_66 H, cW_1 H, cW_k H, cW_pc, cW_pk H, pk_us, pk_un, ne_eq, Nat.reduceEqDiff, not_false_eq_true, h8, h14, nI_1, ks_eq, ks_ss, show (-1 : Int32) * nI k = -(nI k) from by rw [Int32.neg_mul, Int32.one_mul], show cx_pa V (nI p) (-(nI k)) = nI ((p + wm - k) % wm) from cx_pa_s h14 hwm (by omega) (by omega)]; try dsimp only [kx_wp, kx_step, kx_lI, kx_lL, kx_lA, kx_gl, kx_pI, kx_pL, kx_pR, kx_pA, kx_pV, kx_s1, kx_s2, kx_sl, kx_pre, kx_c2, kx_pl, kx_cmp, kx_oF, kx_eqN, kx_nil, kx_c1, kx_ft, kx_aI, kx_aL, kx_aR, kx_ln, Nat.reduceAdd, Option.toList, List.cons_append, List.nil_append, cf1_2, cf9_14, cf1_8])
      repeat' apply And.intro
      all_goals try (first | with_reducible assumption | (with_reducible refine ck_nzI ?_; simp; done) | (with_reducible refine ck_nzL ?_; simp; done) | (with_reducible refine vp_in_nI ?_ ?_ <;> first | omega | decide) | (with_reducible refine Nat.le_of_ble_eq_true ?_; rfl) | omega | exact Or.inl trivial | exact Or.inr trivial | exact Or.inl rfl | exact Or.inr rfl)
      · intro zc10
        first | exact absurd rfl zc10 | exact absurd zc10 (by decide) | exact absurd (by decide) zc10 | (exfalso; first | exact absurd ((nI_leI (a := k) (b := k) (by omega) (by omega)).mpr (by omega)) zc10 | exact absurd ((nI_leI (a := wm) (b := k) (by omega) (by omega)).mp zc10) (by omega)) | (exfalso; simp_all; done)
      · intro zc10
        with_reducible first | have ze10 := Int32.not_le.mp zc10 | have ze10 := zc10
        refine hB bX1_actsToStep_13 _ _ _ _ _ _ _ kX1_actsToStep_13 ?_
        dsimp only [bX1_actsToStep_13, kx_wp, kx_step, kx_lI, kx_lL, kx_lA, kx_gl, kx_pI, kx_pL, kx_pR, kx_pA, kx_pV, kx_s1, kx_s2, kx_sl, kx_pre, kx_c2, kx_pl, kx_cmp, kx_oF, kx_eqN, kx_nil, kx_c1, kx_ft, kx_aI, kx_aL, kx_aR, kx_ln, Nat.reduceAdd, Option.toList, List.cons_append, List.nil_append, cf1_2, cf9_14, cf1_8]
        repeat (simp only [cW_c, cW_w H, cW_t H, cW_q H, cW_f H, cW_s H, cW_65 H, cW_66 H, cW_1 H, cW_k H, cW_pc, cW_pk H, pk_us, pk_un, ne_eq, Nat.reduceEqDiff, not_false_eq_true, h8, h14, nI_1, ks_eq, ks_ss, show (-1 : Int32) * nI k = -(nI k) from by rw [Int32.neg_mul, Int32.one_mul], show cx_pa V (nI p) (-(nI k)) = nI ((p + wm - k) % wm) from cx_pa_s h14 hwm (by omega) (by omega)]; try dsimp only [kx_wp, kx_step, kx_lI, kx_lL, kx_lA, kx_gl, kx_pI, kx_pL, kx_pR, kx_pA, kx_pV, kx_s1, kx_s2, kx_sl, kx_pre, kx_c2, kx_pl, kx_cmp, kx_oF, kx_eqN, kx_nil, kx_c1, kx_ft, kx_aI, kx_aL, kx_aR, kx_ln, Nat.reduceAdd, Option.toList, List.cons_append, List.nil_append, cf1_2, cf9_14, cf1_8])
        repeat' apply And.intro
        all_goals try (first | with_reducible assumption | (with_reducible refine ck_nzI ?_; simp; done) | (with_reducible refine ck_nzL ?_; simp; done) | (with_reducible refine vp_in_nI ?_ ?_ <;> first | omega | decide) | (with_reducible refine Nat.le_of_ble_eq_true ?_; rfl) | omega | exact Or.inl trivial | exact Or.inr trivial | exact Or.inl rfl | exact Or.inr rfl)
        refine hC.1 197 _ _ _ _ _ _ _ 9 _ _ _ _ _ _ _ _ _ _ _ _ lX1_197 (ct_X9_placeAfter l G (cW_w H)) ⟨by decide, rfl⟩ (by first | exact cW_c | exact cW_w H | exact cW_f H | exact cW_65 H) rfl rfl (Nat.le_of_ble_eq_true rfl) (by decide) (by decide) (by omega) (by omega) dX1_actsToStep_25 ?_
        rw [show cx_pa V (nI p) (-(nI k)) = nI ((p + wm - k) % wm) from cx_pa_s h14 hwm (by omega) (by omega)]
        refine hC.1 217 _ _ _ _ _ _ _ 1 _ _ _ _ _ _ _ _ _ _ _ _ lX1_217 (ct_X1_inStepFrom l G H h14 hwm hd ha (fr := (p + wm - k) % wm) (Nat.lt_of_lt_of_le (Nat.mod_lt ((p + wm - k)) (by omega)) (by omega))) ⟨by decide, rfl⟩ (by first | exact cW_c | exact cW_w H | exact cW_f H | exact cW_65 H) rfl rfl (Nat.le_of_ble_eq_true rfl) (by decide) (by decide) (by omega) (by omega) dX1_actsToStep_28 ?_
        refine hB bX1_actsToStep_31 _ _ _ _ _ _ _ kX1_actsToStep_31 ?_
        dsimp only [bX1_actsToStep_31, kx_wp, kx_step, kx_lI, kx_lL, kx_lA, kx_gl, kx_pI, kx_pL, kx_pR, kx_pA, kx_pV, kx_s1, kx_s2, kx_sl, kx_pre, kx_c2, kx_pl, kx_cmp, kx_oF, kx_eqN, kx_nil, kx_c1, kx_ft, kx_aI, kx_aL, kx_aR, kx_ln, Nat.reduceAdd, Option.toList, List.cons_append, List.nil_append, cf1_2, cf9_14, cf1_8]
        repeat (simp only [cW_c, cW_w H, cW_t H, cW_q H, cW_f H, cW_s H, cW_65 H, cW_66 H, cW_1 H, cW_k H, cW_pc, cW_pk H, pk_us, pk_un, ne_eq, Nat.reduceEqDiff, not_false_eq_true, h8, h14, nI_1, ks_eq, ks_ss, show (-1 : Int32) * nI k = -(nI k) from by rw [Int32.neg_mul, Int32.one_mul], show cx_pa V (nI p) (-(nI k)) = nI ((p + wm - k) % wm) from cx_pa_s h14 hwm (by omega) (by omega)]; try dsimp only [kx_wp, kx_step, kx_lI, kx_lL, kx_lA, kx_gl, kx_pI, kx_pL, kx_pR, kx_pA, kx_pV, kx_s1, kx_s2, kx_sl, kx_pre, kx_c2, kx_pl, kx_cmp, kx_oF, kx_eqN, kx_nil, kx_c1, kx_ft, kx_aI, kx_aL, kx_aR, kx_ln, Nat.reduceAdd, Option.toList, List.cons_append, List.nil_append, cf1_2, cf9_14, cf1_8])
        repeat' apply And.intro
        all_goals try (first | with_reducible assumption | (with_reducible refine ck_nzI ?_; simp; done) | (with_reducible refine ck_nzL ?_; simp; done) | (with_reducible refine vp_in_nI ?_ ?_ <;> first | omega | decide) | (with_reducible refine Nat.le_of_ble_eq_true ?_; rfl) | omega | exact Or.inl trivial | exact Or.inr trivial | exact Or.inl rfl | exact Or.inr rfl)
        · intro zc31
          have ze31 := zc31
          refine hB bX1_actsToStep_36 _ _ _ _ _ _ _ kX1_actsToStep_36 ?_
          dsimp only [bX1_actsToStep_36, kx_wp, kx_step, kx_lI, kx_lL, kx_lA, kx_gl, kx_pI, kx_pL, kx_pR, kx_pA, kx_pV, kx_s1, kx_s2, kx_sl, kx_pre, kx_c2, kx_pl, kx_cmp, kx_oF, kx_eqN, kx_nil, kx_c1, kx_ft, kx_aI, kx_aL, kx_aR, kx_ln, Nat.reduceAdd, Option.toList, List.cons_append, List.nil_append, cf1_2, cf9_14, cf1_8]
          repeat (simp only [cW_c, cW_w H, cW_t H, cW_q H, cW_f H, cW_s H, cW_65 H, cW_66 H, cW_1 H, cW_k H, cW_pc, cW_pk H, pk_us, pk_un, ne_eq, Nat.reduceEqDiff, not_false_eq_true, h8, h14, nI_1, ks_eq, ks_ss, show (-1 : Int32) * nI k = -(nI k) from by rw [Int32.neg_mul, Int32.one_mul], show cx_pa V (nI p) (-(nI k)) = nI ((p + wm - k) % wm) from cx_pa_s h14 hwm (by omega) (by omega)]; try dsimp only [kx_wp, kx_step, kx_lI, kx_lL, kx_lA, kx_gl, kx_pI, kx_pL, kx_pR, kx_pA, kx_pV, kx_s1, kx_s2, kx_sl, kx_pre, kx_c2, kx_pl, kx_cmp, kx_oF, kx_eqN, kx_nil, kx_c1, kx_ft, kx_aI, kx_aL, kx_aR, kx_ln, Nat.reduceAdd, Option.toList, List.cons_append, List.nil_append, cf1_2, cf9_14, cf1_8])
          repeat' apply And.intro
          all_goals try (first | with_reducible assumption | (with_reducible refine ck_nzI ?_; simp; done) | (with_reducible refine ck_nzL ?_; simp; done) | (with_reducible refine vp_in_nI ?_ ?_ <;> first | omega | decide) | (with_reducible refine Nat.le_of_ble_eq_true ?_; rfl) | omega | exact Or.inl trivial | exact Or.inr trivial | exact Or.inl rfl | exact Or.inr rfl)
          rw [if_pos (by first | exact ze31 | exact zc31)] at he
          exact ih (k + 1) (by omega) he
        · intro zc31
          have ze31 := zc31
          refine hB bX1_actsToStep_34 _ _ _ _ _ _ _ kX1_actsToStep_34 ?_
          dsimp only [bX1_actsToStep_34, kx_wp, kx_step, kx_lI, kx_lL, kx_lA, kx_gl, kx_pI, kx_pL, kx_pR, kx_pA, kx_pV, kx_s1, kx_s2, kx_sl, kx_pre, kx_c2, kx_pl, kx_cmp, kx_oF, kx_eqN, kx_nil, kx_c1, kx_ft, kx_aI, kx_aL, kx_aR, kx_ln, Nat.reduceAdd, Option.toList, List.cons_append, List.nil_append, cf1_2, cf9_14, cf1_8]
          repeat (simp only [cW_c, cW_w H, cW_t H, cW_q H, cW_f H, cW_s H, cW_65 H, cW_66 H, cW_1 H, cW_k H, cW_pc, cW_pk H, pk_us, pk_un, ne_eq, Nat.reduceEqDiff, not_false_eq_true, h8, h14, nI_1, ks_eq, ks_ss, show (-1 : Int32) * nI k = -(nI k) from by rw [Int32.neg_mul, Int32.one_mul], show cx_pa V (nI p) (-(nI k)) = nI ((p + wm - k) % wm) from cx_pa_s h14 hwm (by omega) (by omega)]; try dsimp only [kx_wp, kx_step, kx_lI, kx_lL, kx_lA, kx_gl, kx_pI, kx_pL, kx_pR, kx_pA, kx_pV, kx_s1, kx_s2, kx_sl, kx_pre, kx_c2, kx_pl, kx_cmp, kx_oF, kx_eqN, kx_nil, kx_c1, kx_ft, kx_aI, kx_aL, kx_aR, kx_ln, Nat.reduceAdd, Option.toList, List.cons_append, List.nil_append, cf1_2, cf9_14, cf1_8])
          all_goals (repeat' apply And.intro)
          all_goals ((try clear hB hC); first | exact True.intro | (rw [if_neg (by assumption)] at he; rw [he]))
  refine hB bX1_actsToStep_0 _ _ _ _ _ _ _ kX1_actsToStep_0 ?_
  dsimp only [bX1_actsToStep_0, kx_wp, kx_step, kx_lI, kx_lL, kx_lA, kx_gl, kx_pI, kx_pL, kx_pR, kx_pA, kx_pV, kx_s1, kx_s2, kx_sl, kx_pre, kx_c2, kx_pl, kx_cmp, kx_oF, kx_eqN, kx_nil, kx_c1, kx_ft, kx_aI, kx_aL, kx_aR, kx_ln, Nat.reduceAdd, Option.toList, List.cons_append, List.nil_append, cf1_2, cf9_14, cf1_8]
  repeat (simp only [cW_c, cW_w H, cW_t H, cW_q H, cW_f H, cW_s H, cW_65 H, cW_66 H, cW_1 H, cW_k H, cW_pc, cW_pk H, pk_us, pk_un, ne_eq, Nat.reduceEqDiff, not_false_eq_true, h8, h14, nI_1, ks_eq, ks_ss]; try dsimp only [kx_wp, kx_step, kx_lI, kx_lL, kx_lA, kx_gl, kx_pI, kx_pL, kx_pR, kx_pA, kx_pV, kx_s1, kx_s2, kx_sl, kx_pre, kx_c2, kx_pl, kx_cmp, kx_oF, kx_eqN, kx_nil, kx_c1, kx_ft, kx_aI, kx_aL, kx_aR, kx_ln, Nat.reduceAdd, Option.toList, List.cons_append, List.nil_append, cf1_2, cf9_14, cf1_8])
  repeat' apply And.intro
  all_goals try (first | with_reducible assumption | (with_reducible refine ck_nzI ?_; simp; done) | (with_reducible refine ck_nzL ?_; simp; done) | (with_reducible refine vp_in_nI ?_ ?_ <;> first | omega | decide) | (with_reducible refine Nat.le_of_ble_eq_true ?_; rfl) | omega | exact Or.inl trivial | exact Or.inr trivial | exact Or.inl rfl | exact Or.inr rfl)
  exact loop2 wm 0 (by omega) rfl

def bX1_ringsOfTrips_0 : List kx_O := [(.iconst 0, 0, 0, 0, .int 0), (.istore_n 2, 2, 0, 0, .null), (.iconst 0, 0, 0, 0, .int 0), (.istore_n 3, 3, 0, 0, .null)]
theorem kX1_ringsOfTrips_0 : kx_oks kxL_X1 false cX1_ringsOfTrips 0 bX1_ringsOfTrips_0 = true := by decide +kernel
def bX1_ringsOfTrips_4 : List kx_O := [(.iload_n 3, 3, 0, 0, .null), (.iload_n 1, 1, 0, 0, .null), (.if_icmp .ge 31, 37, 0, 0, .null)]
theorem kX1_ringsOfTrips_4 : kx_oks kxL_X1 false cX1_ringsOfTrips 4 bX1_ringsOfTrips_4 = true := by decide +kernel
def bX1_ringsOfTrips_9 : List kx_O := [(.iload_n 2, 2, 0, 0, .null), (.aload_n 0, 0, 0, 0, .null), (.getfield 9, 1, 2, 0, .null), (.aload_n 0, 0, 0, 0, .null), (.getfield 9, 1, 2, 0, .null), (.aload_n 0, 0, 0, 0, .null), (.getfield 32, 1, 8, 0, .null), (.iload_n 3, 3, 0, 0, .null)]
theorem kX1_ringsOfTrips_9 : kx_oks kxL_X1 false cX1_ringsOfTrips 9 bX1_ringsOfTrips_9 = true := by decide +kernel
def bX1_ringsOfTrips_29 : List kx_O := [(.iadd, 0, 0, 0, .null), (.istore_n 2, 2, 0, 0, .null), (.iinc 3 1, 3, 0, 0, .int 1), (.goto (-30), 4, 0, 0, .null)]
theorem kX1_ringsOfTrips_29 : kx_oks kxL_X1 false cX1_ringsOfTrips 29 bX1_ringsOfTrips_29 = true := by decide +kernel
def bX1_ringsOfTrips_37 : List kx_O := [(.iload_n 2, 2, 0, 0, .null), (.ireturn, 0, 0, 0, .null)]
theorem kX1_ringsOfTrips_37 : kx_oks kxL_X1 false cX1_ringsOfTrips 37 bX1_ringsOfTrips_37 = true := by decide +kernel
theorem dX1_ringsOfTrips_23 : decode cX1_ringsOfTrips 23 = .ok (.invokevirtual 197, 3) := by decide +kernel
theorem dX1_ringsOfTrips_26 : decode cX1_ringsOfTrips 26 = .ok (.invokevirtual 203, 3) := by decide +kernel
set_option maxRecDepth 100000 in
set_option maxHeartbeats 4000000 in
theorem ct_X1_ringsOfTrips (l : Launch) (G : kx_G) {P : kx_P} {sz : Nat} {c w : Nat} {V T Q Fo St Al Wm S C : Nat → Int32} {d : Int64} {h : Value} (H : cx_R P c w V T Q Fo St Al Wm) {wm : Nat} (h14 : V 14 = nI wm) (hwm : 1 ≤ wm ∧ wm ≤ 24) {p : Nat} (h8 : C 8 = nI p) (hp : p < wm) {t : Nat} (ht : t ≤ 24)  : kx_M l G sX1_ringsOfTrips 3 0 0 [.ref c, .int (nI t)] (cW P c w S d h C) sz (some (.int (cx_ro T wm p t))) (cW P c w S d h C) sz := by
  refine kx_mk kx_tab kxLok_X1 (ini := false) [some (.ref c), some (.int (nI t)), none, none] ⟨by decide, rfl, by decide, by decide⟩ (⟨_, rfl⟩) rfl rfl (fun g hB hC => ?_)
  have loop4 : ∀ (n9 : Nat) (k : Nat), k + n9 = t → g 4 [some (.ref c), some (.int (nI t)), some (.int (cx_ro T wm p k)), some (.int (nI k))] [] (cW P c w S d h C) sz 0 0 := by
    intro n9
    induction n9 with
    | zero =>
      intro k hk
      obtain rfl : k = t := by omega
      refine hB bX1_ringsOfTrips_4 _ _ _ _ _ _ _ kX1_ringsOfTrips_4 ?_
      dsimp only [bX1_ringsOfTrips_4, kx_wp, kx_step, kx_lI, kx_lL, kx_lA, kx_gl, kx_pI, kx_pL, kx_pR, kx_pA, kx_pV, kx_s1, kx_s2, kx_sl, kx_pre, kx_c2, kx_pl, kx_cmp, kx_oF, kx_eqN, kx_nil, kx_c1, kx_ft, kx_aI, kx_aL, kx_aR, kx_ln, Nat.reduceAdd, Option.toList, List.cons_append, List.nil_append, cf1_2, cf1_8]
      repeat (simp only [cW_c, cW_w H, cW_t H, cW_q H, cW_f H, cW_s H, cW_65 H, cW_66 H, cW_1 H, cW_k H, cW_pc, cW_pk H, pk_us, pk_un, ne_eq, Nat.reduceEqDiff, not_false_eq_true, h8, nI_1, ks_eq, ks_ss, show cx_pa V (nI p) (nI k) = nI ((p + k) % wm) from cx_pa_n h14 hwm (by omega) (by omega), show cx_to V T (nI ((p + k) % wm)) = T ((p + k) % wm) from cx_to_n h14 hwm.2 (Nat.mod_lt _ (by omega))]; try dsimp only [kx_wp, kx_step, kx_lI, kx_lL, kx_lA, kx_gl, kx_pI, kx_pL, kx_pR, kx_pA, kx_pV, kx_s1, kx_s2, kx_sl, kx_pre, kx_c2, kx_pl, kx_cmp, kx_oF, kx_eqN, kx_nil, kx_c1, kx_ft, kx_aI, kx_aL, kx_aR, kx_ln, Nat.reduceAdd, Option.toList, List.cons_append, List.nil_append, cf1_2, cf1_8])
      repeat' apply And.intro
      all_goals try (first | with_reducible assumption | (with_reducible refine ck_nzI ?_; simp; done) | (with_reducible refine ck_nzL ?_; simp; done) | (with_reducible refine vp_in_nI ?_ ?_ <;> first | omega | decide) | (with_reducible refine Nat.le_of_ble_eq_true ?_; rfl) | omega | exact Or.inl trivial | exact Or.inr trivial | exact Or.inl rfl | exact Or.inr rfl)
      · intro zc6
        with_reducible first | have ze6 := Int32.not_lt.mpr zc6 | have ze6 := zc6
        refine hB bX1_ringsOfTrips_37 _ _ _ _ _ _ _ kX1_ringsOfTrips_37 ?_
        dsimp only [bX1_ringsOfTrips_37, kx_wp, kx_step, kx_lI, kx_lL, kx_lA, kx_gl, kx_pI, kx_pL, kx_pR, kx_pA, kx_pV, kx_s1, kx_s2, kx_sl, kx_pre, kx_c2, kx_pl, kx_cmp, kx_oF, kx_eqN, kx_nil, kx_c1, kx_ft, kx_aI, kx_aL, kx_aR, kx_ln, Nat.reduceAdd, Option.toList, List.cons_append, List.nil_append, cf1_2, cf1_8]
        repeat (simp only [cW_c, cW_w H, cW_t H, cW_q H, cW_f H, cW_s H, cW_65 H, cW_66 H, cW_1 H, cW_k H, cW_pc, cW_pk H, pk_us, pk_un, ne_eq, Nat.reduceEqDiff, not_false_eq_true, h8, nI_1, ks_eq, ks_ss, show cx_pa V (nI p) (nI k) = nI ((p + k) % wm) from cx_pa_n h14 hwm (by omega) (by omega), show cx_to V T (nI ((p + k) % wm)) = T ((p + k) % wm) from cx_to_n h14 hwm.2 (Nat.mod_lt _ (by omega))]; try dsimp only [kx_wp, kx_step, kx_lI, kx_lL, kx_lA, kx_gl, kx_pI, kx_pL, kx_pR, kx_pA, kx_pV, kx_s1, kx_s2, kx_sl, kx_pre, kx_c2, kx_pl, kx_cmp, kx_oF, kx_eqN, kx_nil, kx_c1, kx_ft, kx_aI, kx_aL, kx_aR, kx_ln, Nat.reduceAdd, Option.toList, List.cons_append, List.nil_append, cf1_2, cf1_8])
        all_goals (repeat' apply And.intro)
        all_goals ((try clear hB hC); first | exact True.intro | rfl)
      · intro zc6
        first | exact absurd rfl zc6 | exact absurd zc6 (by decide) | exact absurd (by decide) zc6 | (exfalso; first | exact absurd ((nI_leI (a := k) (b := k) (by omega) (by omega)).mpr (by omega)) zc6 | exact absurd ((nI_leI (a := t) (b := k) (by omega) (by omega)).mp zc6) (by omega)) | (exfalso; simp_all; done)
    | succ n9 ih =>
      intro k hk
      refine hB bX1_ringsOfTrips_4 _ _ _ _ _ _ _ kX1_ringsOfTrips_4 ?_
      dsimp only [bX1_ringsOfTrips_4, kx_wp, kx_step, kx_lI, kx_lL, kx_lA, kx_gl, kx_pI, kx_pL, kx_pR, kx_pA, kx_pV, kx_s1, kx_s2, kx_sl, kx_pre, kx_c2, kx_pl, kx_cmp, kx_oF, kx_eqN, kx_nil, kx_c1, kx_ft, kx_aI, kx_aL, kx_aR, kx_ln, Nat.reduceAdd, Option.toList, List.cons_append, List.nil_append, cf1_2, cf1_8]
      repeat (simp only [cW_c, cW_w H, cW_t H, cW_q H, cW_f H, cW_s H, cW_65 H, cW_66 H, cW_1 H, cW_k H, cW_pc, cW_pk H, pk_us, pk_un, ne_eq, Nat.reduceEqDiff, not_false_eq_true, h8, nI_1, ks_eq, ks_ss, show cx_pa V (nI p) (nI k) = nI ((p + k) % wm) from cx_pa_n h14 hwm (by omega) (by omega), show cx_to V T (nI ((p + k) % wm)) = T ((p + k) % wm) from cx_to_n h14 hwm.2 (Nat.mod_lt _ (by omega))]; try dsimp only [kx_wp, kx_step, kx_lI, kx_lL, kx_lA, kx_gl, kx_pI, kx_pL, kx_pR, kx_pA, kx_pV, kx_s1, kx_s2, kx_sl, kx_pre, kx_c2, kx_pl, kx_cmp, kx_oF, kx_eqN, kx_nil, kx_c1, kx_ft, kx_aI, kx_aL, kx_aR, kx_ln, Nat.reduceAdd, Option.toList, List.cons_append, List.nil_append, cf1_2, cf1_8])
      repeat' apply And.intro
      all_goals try (first | with_reducible assumption | (with_reducible refine ck_nzI ?_; simp; done) | (with_reducible refine ck_nzL ?_; simp; done) | (with_reducible refine vp_in_nI ?_ ?_ <;> first | omega | decide) | (with_reducible refine Nat.le_of_ble_eq_true ?_; rfl) | omega | exact Or.inl trivial | exact Or.inr trivial | exact Or.inl rfl | exact Or.inr rfl)
      · intro zc6
        first | exact absurd rfl zc6 | exact absurd zc6 (by decide) | exact absurd (by decide) zc6 | (exfalso; first | exact absurd ((nI_leI (a := k) (b := k) (by omega) (by omega)).mpr (by omega)) zc6 | exact absurd ((nI_leI (a := t) (b := k) (by omega) (by omega)).mp zc6) (by omega)) | (exfalso; simp_all; done)
      · intro zc6
        with_reducible first | have ze6 := Int32.not_le.mp zc6 | have ze6 := zc6
        refine hB bX1_ringsOfTrips_9 _ _ _ _ _ _ _ kX1_ringsOfTrips_9 ?_
        dsimp only [bX1_ringsOfTrips_9, kx_wp, kx_step, kx_lI, kx_lL, kx_lA, kx_gl, kx_pI, kx_pL, kx_pR, kx_pA, kx_pV, kx_s1, kx_s2, kx_sl, kx_pre, kx_c2, kx_pl, kx_cmp, kx_oF, kx_eqN, kx_nil, kx_c1, kx_ft, kx_aI, kx_aL, kx_aR, kx_ln, Nat.reduceAdd, Option.toList, List.cons_append, List.nil_append, cf1_2, cf1_8]
        repeat (simp only [cW_c, cW_w H, cW_t H, cW_q H, cW_f H, cW_s H, cW_65 H, cW_66 H, cW_1 H, cW_k H, cW_pc, cW_pk H, pk_us, pk_un, ne_eq, Nat.reduceEqDiff, not_false_eq_true, h8, nI_1, ks_eq, ks_ss, show cx_pa V (nI p) (nI k) = nI ((p + k) % wm) from cx_pa_n h14 hwm (by omega) (by omega), show cx_to V T (nI ((p + k) % wm)) = T ((p + k) % wm) from cx_to_n h14 hwm.2 (Nat.mod_lt _ (by omega))]; try dsimp only [kx_wp, kx_step, kx_lI, kx_lL, kx_lA, kx_gl, kx_pI, kx_pL, kx_pR, kx_pA, kx_pV, kx_s1, kx_s2, kx_sl, kx_pre, kx_c2, kx_pl, kx_cmp, kx_oF, kx_eqN, kx_nil, kx_c1, kx_ft, kx_aI, kx_aL, kx_aR, kx_ln, Nat.reduceAdd, Option.toList, List.cons_append, List.nil_append, cf1_2, cf1_8])
        repeat' apply And.intro
        all_goals try (first | with_reducible assumption | (with_reducible refine ck_nzI ?_; simp; done) | (with_reducible refine ck_nzL ?_; simp; done) | (with_reducible refine vp_in_nI ?_ ?_ <;> first | omega | decide) | (with_reducible refine Nat.le_of_ble_eq_true ?_; rfl) | omega | exact Or.inl trivial | exact Or.inr trivial | exact Or.inl rfl | exact Or.inr rfl)
        refine hC.1 197 _ _ _ _ _ _ _ 9 _ _ _ _ _ _ _ _ _ _ _ _ lX1_197 (ct_X9_placeAfter l G (cW_w H)) ⟨by decide, rfl⟩ (by first | exact cW_c | exact cW_w H | exact cW_f H | exact cW_65 H) rfl rfl (Nat.le_of_ble_eq_true rfl) (by decide) (by decide) (by omega) (by omega) dX1_ringsOfTrips_23 ?_
        refine hC.1 203 _ _ _ _ _ _ _ 9 _ _ _ _ _ _ _ _ _ _ _ _ lX1_203 (ct_X9_toothAt l G (cW_w H) (cW_t H)) ⟨by decide, rfl⟩ (by first | exact cW_c | exact cW_w H | exact cW_f H | exact cW_65 H) rfl rfl (Nat.le_of_ble_eq_true rfl) (by decide) (by decide) (by omega) (by omega) dX1_ringsOfTrips_26 ?_
        refine hB bX1_ringsOfTrips_29 _ _ _ _ _ _ _ kX1_ringsOfTrips_29 ?_
        dsimp only [bX1_ringsOfTrips_29, kx_wp, kx_step, kx_lI, kx_lL, kx_lA, kx_gl, kx_pI, kx_pL, kx_pR, kx_pA, kx_pV, kx_s1, kx_s2, kx_sl, kx_pre, kx_c2, kx_pl, kx_cmp, kx_oF, kx_eqN, kx_nil, kx_c1, kx_ft, kx_aI, kx_aL, kx_aR, kx_ln, Nat.reduceAdd, Option.toList, List.cons_append, List.nil_append, cf1_2, cf1_8]
        repeat (simp only [cW_c, cW_w H, cW_t H, cW_q H, cW_f H, cW_s H, cW_65 H, cW_66 H, cW_1 H, cW_k H, cW_pc, cW_pk H, pk_us, pk_un, ne_eq, Nat.reduceEqDiff, not_false_eq_true, h8, nI_1, ks_eq, ks_ss, show cx_pa V (nI p) (nI k) = nI ((p + k) % wm) from cx_pa_n h14 hwm (by omega) (by omega), show cx_to V T (nI ((p + k) % wm)) = T ((p + k) % wm) from cx_to_n h14 hwm.2 (Nat.mod_lt _ (by omega))]; try dsimp only [kx_wp, kx_step, kx_lI, kx_lL, kx_lA, kx_gl, kx_pI, kx_pL, kx_pR, kx_pA, kx_pV, kx_s1, kx_s2, kx_sl, kx_pre, kx_c2, kx_pl, kx_cmp, kx_oF, kx_eqN, kx_nil, kx_c1, kx_ft, kx_aI, kx_aL, kx_aR, kx_ln, Nat.reduceAdd, Option.toList, List.cons_append, List.nil_append, cf1_2, cf1_8])
        repeat' apply And.intro
        all_goals try (first | with_reducible assumption | (with_reducible refine ck_nzI ?_; simp; done) | (with_reducible refine ck_nzL ?_; simp; done) | (with_reducible refine vp_in_nI ?_ ?_ <;> first | omega | decide) | (with_reducible refine Nat.le_of_ble_eq_true ?_; rfl) | omega | exact Or.inl trivial | exact Or.inr trivial | exact Or.inl rfl | exact Or.inr rfl)
        exact ih (k + 1) (by omega)
  refine hB bX1_ringsOfTrips_0 _ _ _ _ _ _ _ kX1_ringsOfTrips_0 ?_
  dsimp only [bX1_ringsOfTrips_0, kx_wp, kx_step, kx_lI, kx_lL, kx_lA, kx_gl, kx_pI, kx_pL, kx_pR, kx_pA, kx_pV, kx_s1, kx_s2, kx_sl, kx_pre, kx_c2, kx_pl, kx_cmp, kx_oF, kx_eqN, kx_nil, kx_c1, kx_ft, kx_aI, kx_aL, kx_aR, kx_ln, Nat.reduceAdd, Option.toList, List.cons_append, List.nil_append, cf1_2, cf1_8]
  repeat (simp only [cW_c, cW_w H, cW_t H, cW_q H, cW_f H, cW_s H, cW_65 H, cW_66 H, cW_1 H, cW_k H, cW_pc, cW_pk H, pk_us, pk_un, ne_eq, Nat.reduceEqDiff, not_false_eq_true, h8, nI_1, ks_eq, ks_ss]; try dsimp only [kx_wp, kx_step, kx_lI, kx_lL, kx_lA, kx_gl, kx_pI, kx_pL, kx_pR, kx_pA, kx_pV, kx_s1, kx_s2, kx_sl, kx_pre, kx_c2, kx_pl, kx_cmp, kx_oF, kx_eqN, kx_nil, kx_c1, kx_ft, kx_aI, kx_aL, kx_aR, kx_ln, Nat.reduceAdd, Option.toList, List.cons_append, List.nil_append, cf1_2, cf1_8])
  repeat' apply And.intro
  all_goals try (first | with_reducible assumption | (with_reducible refine ck_nzI ?_; simp; done) | (with_reducible refine ck_nzL ?_; simp; done) | (with_reducible refine vp_in_nI ?_ ?_ <;> first | omega | decide) | (with_reducible refine Nat.le_of_ble_eq_true ?_; rfl) | omega | exact Or.inl trivial | exact Or.inr trivial | exact Or.inl rfl | exact Or.inr rfl)
  exact loop4 t 0 (by omega)

def bX1_fit_0 : List kx_O := [(.aload_n 0, 0, 0, 0, .null), (.aload_n 1, 1, 0, 0, .null), (.putfield 9, 1, 2, 3, .null), (.aload_n 0, 0, 0, 0, .null), (.aload_n 0, 0, 0, 0, .null), (.getfield 26, 1, 6, 0, .null), (.aload_n 1, 1, 0, 0, .null)]
theorem kX1_fit_0 : kx_oks kxL_X1 false cX1_fit 0 bX1_fit_0 = true := by decide +kernel
def bX1_fit_17 : List kx_O := [(.putfield 26, 1, 6, 0, .null), (.aload_n 0, 0, 0, 0, .null), (.aload_n 0, 0, 0, 0, .null), (.getfield 29, 1, 7, 0, .null), (.aload_n 1, 1, 0, 0, .null), (.getfield 70, 9, 6, 0, .null)]
theorem kX1_fit_17 : kx_oks kxL_X1 false cX1_fit 17 bX1_fit_17 = true := by decide +kernel
def bX1_fit_32 : List kx_O := [(.putfield 29, 1, 7, 0, .null), (.aload_n 0, 0, 0, 0, .null), (.iconst 0, 0, 0, 0, .int 0), (.putfield 32, 1, 8, 0, .null), (.return_, 0, 0, 0, .null)]
theorem kX1_fit_32 : kx_oks kxL_X1 false cX1_fit 32 bX1_fit_32 = true := by decide +kernel
theorem dX1_fit_11 : decode cX1_fit 11 = .ok (.invokevirtual 64, 3) := by decide +kernel
theorem dX1_fit_14 : decode cX1_fit 14 = .ok (.invokestatic 88, 3) := by decide +kernel
theorem dX1_fit_29 : decode cX1_fit 29 = .ok (.invokestatic 88, 3) := by decide +kernel
set_option maxRecDepth 100000 in
set_option maxHeartbeats 4000000 in
theorem ct_X1_fit (l : Launch) (G : kx_G) {P : kx_P} {sz : Nat} {c w : Nat} {C V : Nat → Int32} {wv hv : Value} {d : Int64} (hq : P c = kO 1 (kf (cr1 wv d hv) C)) (hw : P w = kO 9 (kf (cr9 w) V)) (hcw : ¬ w = c) (c64 : 64 ≤ c)  : kx_M l G sX1_fit 2 0 0 [.ref c, .ref w] P sz none (kx_set P c (kO 1 (kf (cr1 (.ref w) d hv) (upd (upd (upd C 6 (cj_min (C 6) (1440 * V 0))) 7 (cj_min (C 7) (V 6))) 8 0)))) sz := by
  refine kx_mk kx_tab kxLok_X1 (ini := false) [some (.ref c), some (.ref w)] ⟨by decide, rfl, by decide, by decide⟩ (rfl) rfl rfl (fun g hB hC => ?_)
  refine hB bX1_fit_0 _ _ _ _ _ _ _ kX1_fit_0 ?_
  dsimp only [bX1_fit_0, kx_wp, kx_step, kx_lI, kx_lL, kx_lA, kx_gl, kx_pI, kx_pL, kx_pR, kx_pA, kx_pV, kx_s1, kx_s2, kx_sl, kx_pre, kx_c2, kx_pl, kx_cmp, kx_oF, kx_eqN, kx_nil, kx_c1, kx_ft, kx_aI, kx_aL, kx_aR, kx_ln, Nat.reduceAdd, Option.toList, List.cons_append, List.nil_append, cf1_2, cf1_6, cf1_7, cf9_6, cf1_8]
  repeat (simp only [hq, hw, ks_ne hcw, pk_us, pk_un, ne_eq, Nat.reduceEqDiff, not_false_eq_true, cp1_2, cp1_6, cp1_7, cp1_8, ks_eq, ks_ss]; try dsimp only [kx_wp, kx_step, kx_lI, kx_lL, kx_lA, kx_gl, kx_pI, kx_pL, kx_pR, kx_pA, kx_pV, kx_s1, kx_s2, kx_sl, kx_pre, kx_c2, kx_pl, kx_cmp, kx_oF, kx_eqN, kx_nil, kx_c1, kx_ft, kx_aI, kx_aL, kx_aR, kx_ln, Nat.reduceAdd, Option.toList, List.cons_append, List.nil_append, cf1_2, cf1_6, cf1_7, cf9_6, cf1_8])
  repeat' apply And.intro
  all_goals try (first | with_reducible assumption | (with_reducible refine ck_nzI ?_; simp; done) | (with_reducible refine ck_nzL ?_; simp; done) | (with_reducible refine vp_in_nI ?_ ?_ <;> first | omega | decide) | (with_reducible refine Nat.le_of_ble_eq_true ?_; rfl) | omega | exact Or.inl trivial | exact Or.inr trivial | exact Or.inl rfl | exact Or.inr rfl)
  refine hC.1 64 _ _ _ _ _ _ _ 9 _ _ _ _ _ _ _ _ _ _ _ _ lX1_64 (ct_X9_fullLeft l G (V := V) (by rw [ks_ne hcw]; exact hw)) ⟨by decide, rfl⟩ ((by rw [ks_ne hcw]; exact hw)) rfl rfl (Nat.le_of_ble_eq_true rfl) (by decide) (by decide) (by omega) (by omega) dX1_fit_11 ?_
  refine hC.2.1 88 _ _ _ _ _ _ _ _ _ _ _ _ _ _ _ _ _ lX1_88 (ct_J9_min_7cf53 l G) rfl rfl (Nat.le_of_ble_eq_true rfl) (by decide) (by decide) (by omega) (by omega) dX1_fit_14 ?_
  refine hB bX1_fit_17 _ _ _ _ _ _ _ kX1_fit_17 ?_
  dsimp only [bX1_fit_17, kx_wp, kx_step, kx_lI, kx_lL, kx_lA, kx_gl, kx_pI, kx_pL, kx_pR, kx_pA, kx_pV, kx_s1, kx_s2, kx_sl, kx_pre, kx_c2, kx_pl, kx_cmp, kx_oF, kx_eqN, kx_nil, kx_c1, kx_ft, kx_aI, kx_aL, kx_aR, kx_ln, Nat.reduceAdd, Option.toList, List.cons_append, List.nil_append, cf1_2, cf1_6, cf1_7, cf9_6, cf1_8]
  repeat (simp only [hq, hw, ks_ne hcw, pk_us, pk_un, ne_eq, Nat.reduceEqDiff, not_false_eq_true, cp1_2, cp1_6, cp1_7, cp1_8, ks_eq, ks_ss]; try dsimp only [kx_wp, kx_step, kx_lI, kx_lL, kx_lA, kx_gl, kx_pI, kx_pL, kx_pR, kx_pA, kx_pV, kx_s1, kx_s2, kx_sl, kx_pre, kx_c2, kx_pl, kx_cmp, kx_oF, kx_eqN, kx_nil, kx_c1, kx_ft, kx_aI, kx_aL, kx_aR, kx_ln, Nat.reduceAdd, Option.toList, List.cons_append, List.nil_append, cf1_2, cf1_6, cf1_7, cf9_6, cf1_8])
  repeat' apply And.intro
  all_goals try (first | with_reducible assumption | (with_reducible refine ck_nzI ?_; simp; done) | (with_reducible refine ck_nzL ?_; simp; done) | (with_reducible refine vp_in_nI ?_ ?_ <;> first | omega | decide) | (with_reducible refine Nat.le_of_ble_eq_true ?_; rfl) | omega | exact Or.inl trivial | exact Or.inr trivial | exact Or.inl rfl | exact Or.inr rfl)
  refine hC.2.1 88 _ _ _ _ _ _ _ _ _ _ _ _ _ _ _ _ _ lX1_88 (ct_J9_min_7cf53 l G) rfl rfl (Nat.le_of_ble_eq_true rfl) (by decide) (by decide) (by omega) (by omega) dX1_fit_29 ?_
  refine hB bX1_fit_32 _ _ _ _ _ _ _ kX1_fit_32 ?_
  dsimp only [bX1_fit_32, kx_wp, kx_step, kx_lI, kx_lL, kx_lA, kx_gl, kx_pI, kx_pL, kx_pR, kx_pA, kx_pV, kx_s1, kx_s2, kx_sl, kx_pre, kx_c2, kx_pl, kx_cmp, kx_oF, kx_eqN, kx_nil, kx_c1, kx_ft, kx_aI, kx_aL, kx_aR, kx_ln, Nat.reduceAdd, Option.toList, List.cons_append, List.nil_append, cf1_2, cf1_6, cf1_7, cf9_6, cf1_8]
  repeat (simp only [hq, hw, ks_ne hcw, pk_us, pk_un, ne_eq, Nat.reduceEqDiff, not_false_eq_true, cp1_2, cp1_6, cp1_7, cp1_8, ks_eq, ks_ss]; try dsimp only [kx_wp, kx_step, kx_lI, kx_lL, kx_lA, kx_gl, kx_pI, kx_pL, kx_pR, kx_pA, kx_pV, kx_s1, kx_s2, kx_sl, kx_pre, kx_c2, kx_pl, kx_cmp, kx_oF, kx_eqN, kx_nil, kx_c1, kx_ft, kx_aI, kx_aL, kx_aR, kx_ln, Nat.reduceAdd, Option.toList, List.cons_append, List.nil_append, cf1_2, cf1_6, cf1_7, cf9_6, cf1_8])
  all_goals (repeat' apply And.intro)
  all_goals ((try clear hB hC); first | exact True.intro | with_reducible rfl | with_reducible assumption | (with_reducible refine vp_in_nI ?_ ?_ <;> first | omega | decide) | exact Nat.le_of_ble_eq_true rfl | (with_reducible refine ck_nzI ?_; simp; done) | (with_reducible refine ck_nzL ?_; simp; done) | (simp only [pk_us, pk_uLs, ↓reduceIte, not_true_eq_false, not_false_eq_true]; done) | (simp only [↓reduceIte, not_true_eq_false, not_false_eq_true]; with_reducible rfl) | omega | skip)

def bX1_become_0 : List kx_O := [(.aload_n 0, 0, 0, 0, .null), (.aload_n 1, 1, 0, 0, .null), (.getfield 9, 1, 2, 0, .null), (.putfield 9, 1, 2, 3, .null), (.aload_n 0, 0, 0, 0, .null), (.aload_n 1, 1, 0, 0, .null), (.getfield 15, 1, 3, 0, .null), (.putfield 15, 1, 3, 1, .null), (.aload_n 0, 0, 0, 0, .null), (.aload_n 1, 1, 0, 0, .null), (.getfield 19, 1, 4, 0, .null), (.putfield 19, 1, 4, 0, .null), (.aload_n 0, 0, 0, 0, .null), (.aload_n 1, 1, 0, 0, .null), (.getfield 23, 1, 5, 0, .null), (.putfield 23, 1, 5, 0, .null), (.aload_n 0, 0, 0, 0, .null), (.aload_n 1, 1, 0, 0, .null), (.getfield 26, 1, 6, 0, .null), (.putfield 26, 1, 6, 0, .null), (.aload_n 0, 0, 0, 0, .null), (.aload_n 1, 1, 0, 0, .null), (.getfield 29, 1, 7, 0, .null), (.putfield 29, 1, 7, 0, .null), (.aload_n 0, 0, 0, 0, .null), (.aload_n 1, 1, 0, 0, .null), (.getfield 32, 1, 8, 0, .null), (.putfield 32, 1, 8, 0, .null), (.aload_n 0, 0, 0, 0, .null), (.aload_n 1, 1, 0, 0, .null), (.getfield 35, 1, 9, 0, .null), (.putfield 35, 1, 9, 0, .null), (.aload_n 0, 0, 0, 0, .null), (.aload_n 1, 1, 0, 0, .null), (.getfield 38, 1, 10, 0, .null), (.putfield 38, 1, 10, 0, .null), (.return_, 0, 0, 0, .null)]
theorem kX1_become_0 : kx_oks kxL_X1 false cX1_become 0 bX1_become_0 = true := by decide +kernel
set_option maxRecDepth 100000 in
set_option maxHeartbeats 4000000 in
theorem ct_X1_become (l : Launch) (G : kx_G) {P : kx_P} {sz : Nat} {b c : Nat} {C C0 : Nat → Int32} {wn : Nat} {wv0 hv hv0 : Value} {d d0 : Int64} (hb : P b = kO 1 (kf (cr1 wv0 d0 hv0) C0)) (hq : P c = kO 1 (kf (cr1 (.ref wn) d hv) C)) (hcb : ¬ c = b) (b64 : 64 ≤ b)  : kx_M l G sX1_become 1 0 0 [.ref b, .ref c] P sz none (kx_set P b (kO 1 (kf (cr1 (.ref wn) d hv0) (upd (upd (upd (upd (upd (upd (upd C0 4 (C 4)) 5 (C 5)) 6 (C 6)) 7 (C 7)) 8 (C 8)) 9 (C 9)) 10 (C 10))))) sz := by
  refine kx_mk kx_tab kxLok_X1 (ini := false) [some (.ref b), some (.ref c)] ⟨by decide, rfl, by decide, by decide⟩ (rfl) rfl rfl (fun g hB hC => ?_)
  refine hB bX1_become_0 _ _ _ _ _ _ _ kX1_become_0 ?_
  dsimp only [bX1_become_0, kx_wp, kx_step, kx_lI, kx_lL, kx_lA, kx_gl, kx_pI, kx_pL, kx_pR, kx_pA, kx_pV, kx_s1, kx_s2, kx_sl, kx_pre, kx_c2, kx_pl, kx_cmp, kx_oF, kx_eqN, kx_nil, kx_c1, kx_ft, kx_aI, kx_aL, kx_aR, kx_ln, Nat.reduceAdd, Option.toList, List.cons_append, List.nil_append, cf1_2, cf1_3, cf1_4, cf1_5, cf1_6, cf1_7, cf1_8, cf1_9, cf1_10]
  repeat (simp only [hb, hq, ks_ne hcb, cp1_2, cp1_3, cp1_4, cp1_5, cp1_6, cp1_7, cp1_8, cp1_9, cp1_10, ks_eq, ks_ss]; try dsimp only [kx_wp, kx_step, kx_lI, kx_lL, kx_lA, kx_gl, kx_pI, kx_pL, kx_pR, kx_pA, kx_pV, kx_s1, kx_s2, kx_sl, kx_pre, kx_c2, kx_pl, kx_cmp, kx_oF, kx_eqN, kx_nil, kx_c1, kx_ft, kx_aI, kx_aL, kx_aR, kx_ln, Nat.reduceAdd, Option.toList, List.cons_append, List.nil_append, cf1_2, cf1_3, cf1_4, cf1_5, cf1_6, cf1_7, cf1_8, cf1_9, cf1_10])
  all_goals (repeat' apply And.intro)
  all_goals ((try clear hB hC); first | exact True.intro | with_reducible rfl | with_reducible assumption | (with_reducible refine vp_in_nI ?_ ?_ <;> first | omega | decide) | exact Nat.le_of_ble_eq_true rfl | (with_reducible refine ck_nzI ?_; simp; done) | (with_reducible refine ck_nzL ?_; simp; done) | (simp only [pk_us, pk_uLs, ↓reduceIte, not_true_eq_false, not_false_eq_true]; done) | (simp only [↓reduceIte, not_true_eq_false, not_false_eq_true]; with_reducible rfl) | omega | skip)


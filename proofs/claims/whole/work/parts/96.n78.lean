def rW (P : kx_P) (T : (Nat → Int32) × (Nat → Int32) × (Nat → Int32)) : kx_P := kx_set (kx_set (kx_set P 79 (kI 0 6 T.2.1)) 80 (kI 0 6 T.2.2)) 78 (kO 6 (kf (cr6 (.ref 69)) T.1))
section RWS
variable {P : kx_P} {F O B : Nat → Int32} {T : (Nat → Int32) × (Nat → Int32) × (Nat → Int32)}
theorem rW_78 : rW P T 78 = kO 6 (kf (cr6 (.ref 69)) T.1) := ks_eq _ _ _
theorem rW_80 : rW P T 80 = kI 0 6 T.2.2 := by unfold rW; rw [ks_ne (by decide), ks_eq]
theorem rW_79 : rW P T 79 = kI 0 6 T.2.1 := by unfold rW; rw [ks_ne (by decide), ks_ne (by decide), ks_eq]
theorem rW_o {n : Nat} (h1 : ¬ n = 78) (h2 : ¬ n = 79) (h3 : ¬ n = 80) : rW P T n = P n := by unfold rW; rw [ks_ne h1, ks_ne h3, ks_ne h2]
theorem rW_p78 {F2 : Nat → Int32} : kx_set (rW P T) 78 (kO 6 (kf (cr6 (.ref 69)) F2)) = rW P (F2, T.2) := ks_ss _ _ _ _
theorem rW_p80 {B2 : Nat → Int32} : kx_set (rW P T) 80 (kI 0 6 B2) = rW P (T.1, T.2.1, B2) := by unfold rW; rw [ks_co _ _ (by decide), ks_ss]
theorem rW_p79 {O2 : Nat → Int32} : kx_set (rW P T) 79 (kI 0 6 O2) = rW P (T.1, O2, T.2.2) := by unfold rW; rw [ks_co _ _ (by decide), ks_co (P := kx_set P 79 _) _ _ (by decide), ks_ss]
end RWS
abbrev cx_T3 : Type := (Nat → Int32) × (Nat → Int32) × (Nat → Int32)
def cx_lfv (T : cx_T3) (tm sp : Int32) : cx_T3 := (upd (upd T.1 3 sp) 4 tm, T.2.1, ck_cp T.2.2 T.2.1 6)
def cx_pr (T : cx_T3) (tm sp : Int32) (b : cx_T3) : cx_T3 := if T.1 3 < sp then T else if sp = T.1 3 then (if tm < T.1 4 then b else T) else b
def cx_ct (CC VV : Nat → Nat → Int32) (rec : cx_T3 → Nat → Int32 → Int32 → Int32 → Int32 → Int32 → cx_T3) (c k : Nat) (bits t1 sp : Int32) (T : cx_T3) : cx_T3 :=
  rec T (k + 1) bits (CC c 0) (CC c 1) (t1 + (1440 * VV c 0 - cj_max 0 (CC c 6 - t1) + 1440 - 1) / 1440) (sp + if cj_max 0 (CC c 6 - t1) = 0 then 1 else 0)
def cx_gF (CC VV : Nat → Nat → Int32) (rec : cx_T3 → Nat → Int32 → Int32 → Int32 → Int32 → Int32 → cx_T3) (k : Nat) (bits x y tm sp : Int32) (c : Nat) (T : cx_T3) : cx_T3 :=
  if (bits >>> (nI c &&& 31)) &&& 1 = 1 then cx_ct CC VV rec c k (bits &&& ((1 <<< (nI c &&& 31)) ^^^ (-1))) (cx_lf CC x y c + tm) sp (T.1, upd T.2.1 k (nI c), T.2.2) else T
def cx_go (CC VV : Nat → Nat → Int32) (cl : Nat) : Nat → cx_T3 → Nat → Int32 → Int32 → Int32 → Int32 → Int32 → cx_T3
  | 0, T, _, _, _, _, tm, sp => cx_pr T tm sp (cx_lfv T tm sp)
  | n + 1, T, k, bits, x, y, tm, sp => cx_pr T tm sp (if bits = 0 then cx_lfv T tm sp else ck_fold (cx_gF CC VV (cx_go CC VV cl n) k bits x y tm sp) cl T)
theorem ck_cpy6 (O B : Nat → Int32) : va_cpy O B (0 : Int32).toNatClampNeg (0 : Int32).toNatClampNeg (Int32.ofNat 6).toNatClampNeg = ck_cp B O 6 := by
  funext j
  rw [show (0 : Int32).toNatClampNeg = 0 from rfl, show (Int32.ofNat 6).toNatClampNeg = 6 from rfl]
  unfold va_cpy ck_cp
  by_cases h : j < 6
  · rw [if_pos ⟨by omega, by omega⟩, if_pos h]; congr 1; omega
  · rw [if_neg (by omega), if_neg h]
theorem ct_X1_windingMinutes_g (l : Launch) (G : kx_G) {P : kx_P} {sz c w : Nat} {C V : Nat → Int32} {d : Int64} {h : Value} {x : Int32} (hq : P c = kO 1 (kf (cr1 (.ref w) d h) C)) (hw : P w = kO 9 (kf (cr9 w) V)) : kx_M l G sX1_windingMinutes 2 0 0 [.ref c, .int x] P sz (some (.int ((1440 * V 0 - x + 1440 - 1) / 1440))) P sz := by
  refine kx_mk kx_tab kxLok_X1 (ini := false) [some (.ref c), some (.int x)] ⟨by decide, rfl, by decide, by decide⟩ (⟨_, rfl⟩) rfl rfl (fun g hB hC => ?_)
  refine hB bX1_windingMinutes_0 _ _ _ _ _ _ _ kX1_windingMinutes_0 ?_
  dsimp only [bX1_windingMinutes_0, kx_wp, kx_step, kx_lI, kx_lL, kx_lA, kx_gl, kx_pI, kx_pL, kx_pR, kx_pA, kx_pV, kx_s1, kx_s2, kx_sl, kx_pre, kx_c2, kx_pl, kx_cmp, kx_oF, kx_eqN, kx_nil, kx_c1, kx_ft, kx_aI, kx_aL, kx_aR, kx_ln, Nat.reduceAdd, Option.toList, List.cons_append, List.nil_append, cf1_2]
  repeat (simp only [hq, hw]; try dsimp only [kx_wp, kx_step, kx_lI, kx_lL, kx_lA, kx_gl, kx_pI, kx_pL, kx_pR, kx_pA, kx_pV, kx_s1, kx_s2, kx_sl, kx_pre, kx_c2, kx_pl, kx_cmp, kx_oF, kx_eqN, kx_nil, kx_c1, kx_ft, kx_aI, kx_aL, kx_aR, kx_ln, Nat.reduceAdd, Option.toList, List.cons_append, List.nil_append, cf1_2])
  repeat' apply And.intro
  all_goals try (first | with_reducible assumption | (with_reducible refine ck_nzI ?_; simp; done) | (with_reducible refine ck_nzL ?_; simp; done) | (with_reducible refine vp_in_nI ?_ ?_ <;> first | omega | decide) | (with_reducible refine Nat.le_of_ble_eq_true ?_; rfl) | omega)
  refine hC.1 64 _ _ _ _ _ _ _ 9 _ _ _ _ _ _ _ _ _ _ _ _ lX1_64 (ct_X9_fullLeft l G hw) ⟨by decide, rfl⟩ (hw) rfl rfl (Nat.le_of_ble_eq_true rfl) (by first | decide | omega) (by decide) (by omega) (by omega) dX1_windingMinutes_4 ?_
  refine hB bX1_windingMinutes_7 _ _ _ _ _ _ _ kX1_windingMinutes_7 ?_
  dsimp only [bX1_windingMinutes_7, kx_wp, kx_step, kx_lI, kx_lL, kx_lA, kx_gl, kx_pI, kx_pL, kx_pR, kx_pA, kx_pV, kx_s1, kx_s2, kx_sl, kx_pre, kx_c2, kx_pl, kx_cmp, kx_oF, kx_eqN, kx_nil, kx_c1, kx_ft, kx_aI, kx_aL, kx_aR, kx_ln, Nat.reduceAdd, Option.toList, List.cons_append, List.nil_append, cf1_2]
  repeat (simp only [hq, hw]; try dsimp only [kx_wp, kx_step, kx_lI, kx_lL, kx_lA, kx_gl, kx_pI, kx_pL, kx_pR, kx_pA, kx_pV, kx_s1, kx_s2, kx_sl, kx_pre, kx_c2, kx_pl, kx_cmp, kx_oF, kx_eqN, kx_nil, kx_c1, kx_ft, kx_aI, kx_aL, kx_aR, kx_ln, Nat.reduceAdd, Option.toList, List.cons_append, List.nil_append, cf1_2])
  all_goals (repeat' apply And.intro)
  all_goals ((try clear hB hC); first | exact True.intro | decide | rfl)

def bX6_comeTo_0 : List kx_O := [(.iconst 0, 0, 0, 0, .int 0), (.aload_n 1, 1, 0, 0, .null), (.getfield 50, 1, 6, 0, .null), (.iload 4, 4, 0, 0, .null), (.isub, 0, 0, 0, .null)]
theorem kX6_comeTo_0 : kx_oks kxL_X6 false cX6_comeTo 0 bX6_comeTo_0 = true := by decide +kernel
def bX6_comeTo_11 : List kx_O := [(.istore 6, 6, 0, 0, .null), (.iload 6, 6, 0, 0, .null), (.ifCond .ne 7, 22, 0, 0, .null)]
theorem kX6_comeTo_11 : kx_oks kxL_X6 false cX6_comeTo 11 bX6_comeTo_11 = true := by decide +kernel
def bX6_comeTo_18 : List kx_O := [(.iconst 1, 0, 0, 0, .int 1), (.goto 4, 23, 0, 0, .null)]
theorem kX6_comeTo_18 : kx_oks kxL_X6 false cX6_comeTo 18 bX6_comeTo_18 = true := by decide +kernel
def bX6_comeTo_22 : List kx_O := [(.iconst 0, 0, 0, 0, .int 0)]
theorem kX6_comeTo_22 : kx_oks kxL_X6 false cX6_comeTo 22 bX6_comeTo_22 = true := by decide +kernel
def bX6_comeTo_23 : List kx_O := [(.istore 7, 7, 0, 0, .null), (.aload_n 0, 0, 0, 0, .null), (.iload_n 2, 2, 0, 0, .null), (.iconst 1, 0, 0, 0, .int 1), (.iadd, 0, 0, 0, .null), (.iload_n 3, 3, 0, 0, .null), (.aload_n 1, 1, 0, 0, .null), (.getfield 58, 1, 0, 0, .null), (.aload_n 1, 1, 0, 0, .null), (.getfield 61, 1, 1, 0, .null), (.iload 4, 4, 0, 0, .null), (.aload_n 1, 1, 0, 0, .null), (.iload 6, 6, 0, 0, .null)]
theorem kX6_comeTo_23 : kx_oks kxL_X6 false cX6_comeTo 23 bX6_comeTo_23 = true := by decide +kernel
def bX6_comeTo_46 : List kx_O := [(.iadd, 0, 0, 0, .null), (.iload 5, 5, 0, 0, .null), (.iload 7, 7, 0, 0, .null), (.iadd, 0, 0, 0, .null)]
theorem kX6_comeTo_46 : kx_oks kxL_X6 false cX6_comeTo 46 bX6_comeTo_46 = true := by decide +kernel
def bX6_comeTo_55 : List kx_O := [(.return_, 0, 0, 0, .null)]
theorem kX6_comeTo_55 : kx_oks kxL_X6 false cX6_comeTo 55 bX6_comeTo_55 = true := by decide +kernel
theorem dX6_comeTo_8 : decode cX6_comeTo 8 = .ok (.invokestatic 53, 3) := by decide +kernel
theorem dX6_comeTo_43 : decode cX6_comeTo 43 = .ok (.invokevirtual 64, 3) := by decide +kernel
theorem dX6_comeTo_52 : decode cX6_comeTo 52 = .ok (.invokevirtual 30, 3) := by decide +kernel
set_option maxRecDepth 100000 in
set_option maxHeartbeats 4000000 in
theorem ct_X6_comeTo (l : Launch) (G : kx_G) {P : kx_P} {sz : Nat} {cl : Nat} (hcl : cl ≤ 8) {cn wn : Nat → Nat} {DD : Nat → Int64} {HH : Nat → Value} {CC VV : Nat → Nat → Int32} (hCS : cx_CS P cl cn wn DD HH CC VV) {n c k : Nat} (hgo : ∀ (T : cx_T3) (k : Nat) (bits x y tm sp : Int32), k + n = 6 → kx_M l G sX6_goOn (2 * n + 4) 0 0 [.ref 78, .int (nI k), .int bits, .int x, .int y, .int tm, .int sp] (rW P T) sz none (rW P (cx_go CC VV cl n T k bits x y tm sp)) sz) {T : cx_T3} {bits t1 sp : Int32} (hc : c < cl) (hk : k + 1 + n = 6)  : kx_M l G sX6_comeTo (2 * n + 5) 0 0 [.ref 78, .ref (cn c), .int (nI k), .int (bits), .int (t1), .int (sp)] (rW P T) sz none (rW P (cx_ct CC VV (cx_go CC VV cl n) c k bits t1 sp T)) sz := by
  obtain ⟨h69, hcs⟩ := hCS
  obtain ⟨hc1, hc2, hc3, hc4⟩ := hcs c hc
  have hqc : ∀ T, rW P T (cn c) = kO 1 (kf (cr1 (.ref (wn c)) (DD c) (HH c)) (CC c)) := fun _ => (rW_o (by omega) (by omega) (by omega)).trans hc1
  have hqw : ∀ T, rW P T (wn c) = kO 9 (kf (cr9 (wn c)) (VV c)) := fun _ => (rW_o (by omega) (by omega) (by omega)).trans hc2
  refine kx_mk kx_tab kxLok_X6 (ini := false) [some (.ref 78), some (.ref (cn c)), some (.int (nI k)), some (.int (bits)), some (.int (t1)), some (.int (sp)), none, none] ⟨by decide, rfl, by decide, by omega⟩ (rfl) rfl rfl (fun g hB hC => ?_)
  refine hB bX6_comeTo_0 _ _ _ _ _ _ _ kX6_comeTo_0 ?_
  dsimp only [bX6_comeTo_0, kx_wp, kx_step, kx_lI, kx_lL, kx_lA, kx_gl, kx_pI, kx_pL, kx_pR, kx_pA, kx_pV, kx_s1, kx_s2, kx_sl, kx_pre, kx_c2, kx_pl, kx_cmp, kx_oF, kx_eqN, kx_nil, kx_c1, kx_ft, kx_aI, kx_aL, kx_aR, kx_ln, Nat.reduceAdd, Option.toList, List.cons_append, List.nil_append, cf1_6, cf1_0, cf1_1]
  repeat (simp only [rW_78, rW_79, rW_80, rW_p78, rW_p79, rW_p80, hqc, hqw, nI_1, ks_eq, ks_ss]; try dsimp only [kx_wp, kx_step, kx_lI, kx_lL, kx_lA, kx_gl, kx_pI, kx_pL, kx_pR, kx_pA, kx_pV, kx_s1, kx_s2, kx_sl, kx_pre, kx_c2, kx_pl, kx_cmp, kx_oF, kx_eqN, kx_nil, kx_c1, kx_ft, kx_aI, kx_aL, kx_aR, kx_ln, Nat.reduceAdd, Option.toList, List.cons_append, List.nil_append, cf1_6, cf1_0, cf1_1])
  repeat' apply And.intro
  all_goals try (first | with_reducible assumption | (with_reducible refine ck_nzI ?_; simp; done) | (with_reducible refine ck_nzL ?_; simp; done) | (with_reducible refine vp_in_nI ?_ ?_ <;> first | omega | decide) | (with_reducible refine Nat.le_of_ble_eq_true ?_; rfl) | omega | exact Or.inl trivial | exact Or.inr trivial | exact Or.inl rfl | exact Or.inr rfl)
  refine hC.2.1 53 _ _ _ _ _ _ _ _ _ _ _ _ _ _ _ _ _ lX6_53 (ct_J9_max_7cf53 l G) rfl rfl (Nat.le_of_ble_eq_true rfl) (by first | decide | omega) (by decide) (by omega) (by omega) dX6_comeTo_8 ?_
  refine hB bX6_comeTo_11 _ _ _ _ _ _ _ kX6_comeTo_11 ?_
  dsimp only [bX6_comeTo_11, kx_wp, kx_step, kx_lI, kx_lL, kx_lA, kx_gl, kx_pI, kx_pL, kx_pR, kx_pA, kx_pV, kx_s1, kx_s2, kx_sl, kx_pre, kx_c2, kx_pl, kx_cmp, kx_oF, kx_eqN, kx_nil, kx_c1, kx_ft, kx_aI, kx_aL, kx_aR, kx_ln, Nat.reduceAdd, Option.toList, List.cons_append, List.nil_append, cf1_6, cf1_0, cf1_1]
  repeat (simp only [rW_78, rW_79, rW_80, rW_p78, rW_p79, rW_p80, hqc, hqw, nI_1, ks_eq, ks_ss]; try dsimp only [kx_wp, kx_step, kx_lI, kx_lL, kx_lA, kx_gl, kx_pI, kx_pL, kx_pR, kx_pA, kx_pV, kx_s1, kx_s2, kx_sl, kx_pre, kx_c2, kx_pl, kx_cmp, kx_oF, kx_eqN, kx_nil, kx_c1, kx_ft, kx_aI, kx_aL, kx_aR, kx_ln, Nat.reduceAdd, Option.toList, List.cons_append, List.nil_append, cf1_6, cf1_0, cf1_1])
  repeat' apply And.intro
  all_goals try (first | with_reducible assumption | (with_reducible refine ck_nzI ?_; simp; done) | (with_reducible refine ck_nzL ?_; simp; done) | (with_reducible refine vp_in_nI ?_ ?_ <;> first | omega | decide) | (with_reducible refine Nat.le_of_ble_eq_true ?_; rfl) | omega | exact Or.inl trivial | exact Or.inr trivial | exact Or.inl rfl | exact Or.inr rfl)
  · intro zc15
    have ze15 := zc15
    refine hB bX6_comeTo_22 _ _ _ _ _ _ _ kX6_comeTo_22 ?_
    dsimp only [bX6_comeTo_22, kx_wp, kx_step, kx_lI, kx_lL, kx_lA, kx_gl, kx_pI, kx_pL, kx_pR, kx_pA, kx_pV, kx_s1, kx_s2, kx_sl, kx_pre, kx_c2, kx_pl, kx_cmp, kx_oF, kx_eqN, kx_nil, kx_c1, kx_ft, kx_aI, kx_aL, kx_aR, kx_ln, Nat.reduceAdd, Option.toList, List.cons_append, List.nil_append, cf1_6, cf1_0, cf1_1]
    repeat (simp only [rW_78, rW_79, rW_80, rW_p78, rW_p79, rW_p80, hqc, hqw, nI_1, ks_eq, ks_ss]; try dsimp only [kx_wp, kx_step, kx_lI, kx_lL, kx_lA, kx_gl, kx_pI, kx_pL, kx_pR, kx_pA, kx_pV, kx_s1, kx_s2, kx_sl, kx_pre, kx_c2, kx_pl, kx_cmp, kx_oF, kx_eqN, kx_nil, kx_c1, kx_ft, kx_aI, kx_aL, kx_aR, kx_ln, Nat.reduceAdd, Option.toList, List.cons_append, List.nil_append, cf1_6, cf1_0, cf1_1])
    repeat' apply And.intro
    all_goals try (first | with_reducible assumption | (with_reducible refine ck_nzI ?_; simp; done) | (with_reducible refine ck_nzL ?_; simp; done) | (with_reducible refine vp_in_nI ?_ ?_ <;> first | omega | decide) | (with_reducible refine Nat.le_of_ble_eq_true ?_; rfl) | omega | exact Or.inl trivial | exact Or.inr trivial | exact Or.inl rfl | exact Or.inr rfl)
    refine hB bX6_comeTo_23 _ _ _ _ _ _ _ kX6_comeTo_23 ?_
    dsimp only [bX6_comeTo_23, kx_wp, kx_step, kx_lI, kx_lL, kx_lA, kx_gl, kx_pI, kx_pL, kx_pR, kx_pA, kx_pV, kx_s1, kx_s2, kx_sl, kx_pre, kx_c2, kx_pl, kx_cmp, kx_oF, kx_eqN, kx_nil, kx_c1, kx_ft, kx_aI, kx_aL, kx_aR, kx_ln, Nat.reduceAdd, Option.toList, List.cons_append, List.nil_append, cf1_6, cf1_0, cf1_1]
    repeat (simp only [rW_78, rW_79, rW_80, rW_p78, rW_p79, rW_p80, hqc, hqw, nI_1, ks_eq, ks_ss]; try dsimp only [kx_wp, kx_step, kx_lI, kx_lL, kx_lA, kx_gl, kx_pI, kx_pL, kx_pR, kx_pA, kx_pV, kx_s1, kx_s2, kx_sl, kx_pre, kx_c2, kx_pl, kx_cmp, kx_oF, kx_eqN, kx_nil, kx_c1, kx_ft, kx_aI, kx_aL, kx_aR, kx_ln, Nat.reduceAdd, Option.toList, List.cons_append, List.nil_append, cf1_6, cf1_0, cf1_1])
    repeat' apply And.intro
    all_goals try (first | with_reducible assumption | (with_reducible refine ck_nzI ?_; simp; done) | (with_reducible refine ck_nzL ?_; simp; done) | (with_reducible refine vp_in_nI ?_ ?_ <;> first | omega | decide) | (with_reducible refine Nat.le_of_ble_eq_true ?_; rfl) | omega | exact Or.inl trivial | exact Or.inr trivial | exact Or.inl rfl | exact Or.inr rfl)
    refine hC.1 64 _ _ _ _ _ _ _ 1 _ _ _ _ _ _ _ _ _ _ _ _ lX6_64 (ct_X1_windingMinutes_g l G (hqc _) (hqw _)) ⟨by decide, rfl⟩ (hqc _) rfl rfl (Nat.le_of_ble_eq_true rfl) (by first | decide | omega) (by decide) (by omega) (by omega) dX6_comeTo_43 ?_
    refine hB bX6_comeTo_46 _ _ _ _ _ _ _ kX6_comeTo_46 ?_
    dsimp only [bX6_comeTo_46, kx_wp, kx_step, kx_lI, kx_lL, kx_lA, kx_gl, kx_pI, kx_pL, kx_pR, kx_pA, kx_pV, kx_s1, kx_s2, kx_sl, kx_pre, kx_c2, kx_pl, kx_cmp, kx_oF, kx_eqN, kx_nil, kx_c1, kx_ft, kx_aI, kx_aL, kx_aR, kx_ln, Nat.reduceAdd, Option.toList, List.cons_append, List.nil_append, cf1_6, cf1_0, cf1_1]
    repeat (simp only [rW_78, rW_79, rW_80, rW_p78, rW_p79, rW_p80, hqc, hqw, nI_1, ks_eq, ks_ss]; try dsimp only [kx_wp, kx_step, kx_lI, kx_lL, kx_lA, kx_gl, kx_pI, kx_pL, kx_pR, kx_pA, kx_pV, kx_s1, kx_s2, kx_sl, kx_pre, kx_c2, kx_pl, kx_cmp, kx_oF, kx_eqN, kx_nil, kx_c1, kx_ft, kx_aI, kx_aL, kx_aR, kx_ln, Nat.reduceAdd, Option.toList, List.cons_append, List.nil_append, cf1_6, cf1_0, cf1_1])
    repeat' apply And.intro
    all_goals try (first | with_reducible assumption | (with_reducible refine ck_nzI ?_; simp; done) | (with_reducible refine ck_nzL ?_; simp; done) | (with_reducible refine vp_in_nI ?_ ?_ <;> first | omega | decide) | (with_reducible refine Nat.le_of_ble_eq_true ?_; rfl) | omega | exact Or.inl trivial | exact Or.inr trivial | exact Or.inl rfl | exact Or.inr rfl)
    refine hC.1 30 _ _ _ _ _ _ _ 6 _ _ _ _ _ _ _ _ _ _ _ _ lX6_30 (hgo _ _ _ _ _ _ _ hk) ⟨by decide, rfl⟩ (rW_78) rfl rfl (Nat.le_of_ble_eq_true rfl) (by first | decide | omega) (by decide) (by omega) (by omega) dX6_comeTo_52 ?_
    refine hB bX6_comeTo_55 _ _ _ _ _ _ _ kX6_comeTo_55 ?_
    dsimp only [bX6_comeTo_55, kx_wp, kx_step, kx_lI, kx_lL, kx_lA, kx_gl, kx_pI, kx_pL, kx_pR, kx_pA, kx_pV, kx_s1, kx_s2, kx_sl, kx_pre, kx_c2, kx_pl, kx_cmp, kx_oF, kx_eqN, kx_nil, kx_c1, kx_ft, kx_aI, kx_aL, kx_aR, kx_ln, Nat.reduceAdd, Option.toList, List.cons_append, List.nil_append, cf1_6, cf1_0, cf1_1]
    repeat (simp only [rW_78, rW_79, rW_80, rW_p78, rW_p79, rW_p80, hqc, hqw, nI_1, ks_eq, ks_ss]; try dsimp only [kx_wp, kx_step, kx_lI, kx_lL, kx_lA, kx_gl, kx_pI, kx_pL, kx_pR, kx_pA, kx_pV, kx_s1, kx_s2, kx_sl, kx_pre, kx_c2, kx_pl, kx_cmp, kx_oF, kx_eqN, kx_nil, kx_c1, kx_ft, kx_aI, kx_aL, kx_aR, kx_ln, Nat.reduceAdd, Option.toList, List.cons_append, List.nil_append, cf1_6, cf1_0, cf1_1])
    all_goals (repeat' apply And.intro)
    all_goals ((try clear hB hC); first | exact True.intro | (simp only [cx_ct, ze15, ↓reduceIte]; done))
  · intro zc15
    with_reducible first | have ze15 := Decidable.not_not.mp zc15 | have ze15 := zc15
    refine hB bX6_comeTo_18 _ _ _ _ _ _ _ kX6_comeTo_18 ?_
    dsimp only [bX6_comeTo_18, kx_wp, kx_step, kx_lI, kx_lL, kx_lA, kx_gl, kx_pI, kx_pL, kx_pR, kx_pA, kx_pV, kx_s1, kx_s2, kx_sl, kx_pre, kx_c2, kx_pl, kx_cmp, kx_oF, kx_eqN, kx_nil, kx_c1, kx_ft, kx_aI, kx_aL, kx_aR, kx_ln, Nat.reduceAdd, Option.toList, List.cons_append, List.nil_append, cf1_6, cf1_0, cf1_1]
    repeat (simp only [rW_78, rW_79, rW_80, rW_p78, rW_p79, rW_p80, hqc, hqw, nI_1, ks_eq, ks_ss]; try dsimp only [kx_wp, kx_step, kx_lI, kx_lL, kx_lA, kx_gl, kx_pI, kx_pL, kx_pR, kx_pA, kx_pV, kx_s1, kx_s2, kx_sl, kx_pre, kx_c2, kx_pl, kx_cmp, kx_oF, kx_eqN, kx_nil, kx_c1, kx_ft, kx_aI, kx_aL, kx_aR, kx_ln, Nat.reduceAdd, Option.toList, List.cons_append, List.nil_append, cf1_6, cf1_0, cf1_1])
    repeat' apply And.intro
    all_goals try (first | with_reducible assumption | (with_reducible refine ck_nzI ?_; simp; done) | (with_reducible refine ck_nzL ?_; simp; done) | (with_reducible refine vp_in_nI ?_ ?_ <;> first | omega | decide) | (with_reducible refine Nat.le_of_ble_eq_true ?_; rfl) | omega | exact Or.inl trivial | exact Or.inr trivial | exact Or.inl rfl | exact Or.inr rfl)
    refine hB bX6_comeTo_23 _ _ _ _ _ _ _ kX6_comeTo_23 ?_
    dsimp only [bX6_comeTo_23, kx_wp, kx_step, kx_lI, kx_lL, kx_lA, kx_gl, kx_pI, kx_pL, kx_pR, kx_pA, kx_pV, kx_s1, kx_s2, kx_sl, kx_pre, kx_c2, kx_pl, kx_cmp, kx_oF, kx_eqN, kx_nil, kx_c1, kx_ft, kx_aI, kx_aL, kx_aR, kx_ln, Nat.reduceAdd, Option.toList, List.cons_append, List.nil_append, cf1_6, cf1_0, cf1_1]
    repeat (simp only [rW_78, rW_79, rW_80, rW_p78, rW_p79, rW_p80, hqc, hqw, nI_1, ks_eq, ks_ss]; try dsimp only [kx_wp, kx_step, kx_lI, kx_lL, kx_lA, kx_gl, kx_pI, kx_pL, kx_pR, kx_pA, kx_pV, kx_s1, kx_s2, kx_sl, kx_pre, kx_c2, kx_pl, kx_cmp, kx_oF, kx_eqN, kx_nil, kx_c1, kx_ft, kx_aI, kx_aL, kx_aR, kx_ln, Nat.reduceAdd, Option.toList, List.cons_append, List.nil_append, cf1_6, cf1_0, cf1_1])
    repeat' apply And.intro
    all_goals try (first | with_reducible assumption | (with_reducible refine ck_nzI ?_; simp; done) | (with_reducible refine ck_nzL ?_; simp; done) | (with_reducible refine vp_in_nI ?_ ?_ <;> first | omega | decide) | (with_reducible refine Nat.le_of_ble_eq_true ?_; rfl) | omega | exact Or.inl trivial | exact Or.inr trivial | exact Or.inl rfl | exact Or.inr rfl)
    refine hC.1 64 _ _ _ _ _ _ _ 1 _ _ _ _ _ _ _ _ _ _ _ _ lX6_64 (ct_X1_windingMinutes_g l G (hqc _) (hqw _)) ⟨by decide, rfl⟩ (hqc _) rfl rfl (Nat.le_of_ble_eq_true rfl) (by first | decide | omega) (by decide) (by omega) (by omega) dX6_comeTo_43 ?_
    refine hB bX6_comeTo_46 _ _ _ _ _ _ _ kX6_comeTo_46 ?_
    dsimp only [bX6_comeTo_46, kx_wp, kx_step, kx_lI, kx_lL, kx_lA, kx_gl, kx_pI, kx_pL, kx_pR, kx_pA, kx_pV, kx_s1, kx_s2, kx_sl, kx_pre, kx_c2, kx_pl, kx_cmp, kx_oF, kx_eqN, kx_nil, kx_c1, kx_ft, kx_aI, kx_aL, kx_aR, kx_ln, Nat.reduceAdd, Option.toList, List.cons_append, List.nil_append, cf1_6, cf1_0, cf1_1]
    repeat (simp only [rW_78, rW_79, rW_80, rW_p78, rW_p79, rW_p80, hqc, hqw, nI_1, ks_eq, ks_ss]; try dsimp only [kx_wp, kx_step, kx_lI, kx_lL, kx_lA, kx_gl, kx_pI, kx_pL, kx_pR, kx_pA, kx_pV, kx_s1, kx_s2, kx_sl, kx_pre, kx_c2, kx_pl, kx_cmp, kx_oF, kx_eqN, kx_nil, kx_c1, kx_ft, kx_aI, kx_aL, kx_aR, kx_ln, Nat.reduceAdd, Option.toList, List.cons_append, List.nil_append, cf1_6, cf1_0, cf1_1])
    repeat' apply And.intro
    all_goals try (first | with_reducible assumption | (with_reducible refine ck_nzI ?_; simp; done) | (with_reducible refine ck_nzL ?_; simp; done) | (with_reducible refine vp_in_nI ?_ ?_ <;> first | omega | decide) | (with_reducible refine Nat.le_of_ble_eq_true ?_; rfl) | omega | exact Or.inl trivial | exact Or.inr trivial | exact Or.inl rfl | exact Or.inr rfl)
    refine hC.1 30 _ _ _ _ _ _ _ 6 _ _ _ _ _ _ _ _ _ _ _ _ lX6_30 (hgo _ _ _ _ _ _ _ hk) ⟨by decide, rfl⟩ (rW_78) rfl rfl (Nat.le_of_ble_eq_true rfl) (by first | decide | omega) (by decide) (by omega) (by omega) dX6_comeTo_52 ?_
    refine hB bX6_comeTo_55 _ _ _ _ _ _ _ kX6_comeTo_55 ?_
    dsimp only [bX6_comeTo_55, kx_wp, kx_step, kx_lI, kx_lL, kx_lA, kx_gl, kx_pI, kx_pL, kx_pR, kx_pA, kx_pV, kx_s1, kx_s2, kx_sl, kx_pre, kx_c2, kx_pl, kx_cmp, kx_oF, kx_eqN, kx_nil, kx_c1, kx_ft, kx_aI, kx_aL, kx_aR, kx_ln, Nat.reduceAdd, Option.toList, List.cons_append, List.nil_append, cf1_6, cf1_0, cf1_1]
    repeat (simp only [rW_78, rW_79, rW_80, rW_p78, rW_p79, rW_p80, hqc, hqw, nI_1, ks_eq, ks_ss]; try dsimp only [kx_wp, kx_step, kx_lI, kx_lL, kx_lA, kx_gl, kx_pI, kx_pL, kx_pR, kx_pA, kx_pV, kx_s1, kx_s2, kx_sl, kx_pre, kx_c2, kx_pl, kx_cmp, kx_oF, kx_eqN, kx_nil, kx_c1, kx_ft, kx_aI, kx_aL, kx_aR, kx_ln, Nat.reduceAdd, Option.toList, List.cons_append, List.nil_append, cf1_6, cf1_0, cf1_1])
    all_goals (repeat' apply And.intro)
    all_goals ((try clear hB hC); first | exact True.intro | (simp only [cx_ct, eq_true ze15, ↓reduceIte]; done))


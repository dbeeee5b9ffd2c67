/-- all clocks, as others read them -/
def cx_CS (P : kx_P) (cl : Nat) (cn wn : Nat → Nat) (DD : Nat → Int64) (HH : Nat → Value) (CC VV : Nat → Nat → Int32) : Prop :=
  P 69 = kR 8 (fun i => if i < cl then some (cn i) else none) ∧ ∀ i, i < cl → P (cn i) = kO 1 (kf (cr1 (.ref (wn i)) (DD i) (HH i)) (CC i)) ∧ P (wn i) = kO 9 (kf (cr9 (wn i)) (VV i)) ∧ 144 ≤ cn i ∧ 144 ≤ wn i
def cx_lf (CC : Nat → Nat → Int32) (x y : Int32) (c : Nat) : Int32 := ck_abs (CC c 0 - x) + ck_abs (CC c 1 - y)
theorem cx_ab {u v : Nat} (hu : u ≤ 99) (hv : v ≤ 99) : ∃ f : Nat, f ≤ 99 ∧ ck_abs (nI u - nI v) = nI f := by
  unfold ck_abs
  by_cases h : v ≤ u
  · refine ⟨u - v, by omega, ?_⟩
    rw [pk_sub h, if_neg (nI_pos (by omega))]
  · refine ⟨v - u, by omega, ?_⟩
    have e : nI u - nI v = -(nI (v - u)) := by rw [← pk_sub (show u ≤ v by omega), Int32.neg_sub]
    rw [if_pos (pk_sneg (by omega) (by omega)), e, Int32.neg_neg]
/-- rows kept and clocks' places are in range -/
def cx_SO (q1 q2 q3 q4 : Nat → Int32) (CC : Nat → Nat → Int32) (sd cl : Nat) : Prop :=
  (∀ i, i < 200 → i < sd → ∃ ci nn a : Nat, ci < cl ∧ q1 i = nI ci ∧ q3 i + q4 i = nI nn ∧ nn ≤ 100000 ∧ q2 i = nI a ∧ a ≤ 6100000) ∧ ∀ i, i < cl → ∃ u v : Nat, u ≤ 99 ∧ v ≤ 99 ∧ CC i 0 = nI u ∧ CC i 1 = nI v
theorem cx_lf_n {q1 q2 q3 q4 : Nat → Int32} {CC : Nat → Nat → Int32} {sd cl c x y : Nat} (h : cx_SO q1 q2 q3 q4 CC sd cl) (hc : c < cl) (hx : x ≤ 99) (hy : y ≤ 99) : ∃ f : Nat, f ≤ 198 ∧ cx_lf CC (nI x) (nI y) c = nI f := by
  obtain ⟨u, v, hu, hv, e1, e2⟩ := h.2 c hc
  obtain ⟨f1, h1, e3⟩ := cx_ab hu hx
  obtain ⟨f2, h2, e4⟩ := cx_ab hv hy
  refine ⟨f1 + f2, by omega, ?_⟩
  unfold cx_lf
  rw [e1, e2, e3, e4, nI_add]
def cx_lo (CC VV : Nat → Nat → Int32) (q1 q2 q3 q4 : Nat → Int32) (x y mi : Int32) (sd : Nat) (X Y : Nat → Int32) : Nat → (Nat → Int32) × (Nat → Int32)
  | 0 => (ck_cp X (fun _ => 0) 120, ck_cp Y (fun _ => 0) 120)
  | k + 1 =>
    if cx_lf CC x y (q1 ((sd - 1 - k) % 200)).toNatClampNeg ≤ VV (q1 ((sd - 1 - k) % 200)).toNatClampNeg 7 then cx_hs (q2 ((sd - 1 - k) % 200) + cx_lf CC x y (q1 ((sd - 1 - k) % 200)).toNatClampNeg / 10 - 60 * mi) (1 <<< (nI (q1 ((sd - 1 - k) % 200)).toNatClampNeg &&& 31)) (cx_lo CC VV q1 q2 q3 q4 x y mi sd X Y k) (q3 ((sd - 1 - k) % 200) + q4 ((sd - 1 - k) % 200)).toNatClampNeg
    else cx_lo CC VV q1 q2 q3 q4 x y mi sd X Y k
theorem cx_hs_c {b bit : Int32} {Z Z2 : (Nat → Int32) × (Nat → Int32)} (h : ∀ s, s < 120 → Z.1 s = Z2.1 s ∧ Z.2 s = Z2.2 s) : ∀ n s, s < 120 → (cx_hs b bit Z n).1 s = (cx_hs b bit Z2 n).1 s ∧ (cx_hs b bit Z n).2 s = (cx_hs b bit Z2 n).2 s := by
  intro n
  induction n with
  | zero => exact h
  | succ n ih =>
    intro s hs
    rw [cx_hs_s, cx_hs_s]
    split
    · exact ih s hs
    · rename_i h1
      split
      · exact ih s hs
      · rename_i h2
        obtain ⟨j, h3, e, -⟩ := pk_mu (L := 120) h1 h2 (by decide)
        rw [e, nI_clamp (by omega)]
        obtain ⟨i1, i2⟩ := ih j h3
        obtain ⟨i3, i4⟩ := ih s hs
        dsimp only
        unfold upd
        constructor <;> split <;> simp only [i1, i2, i3, i4]
theorem cx_lo_c {CC VV : Nat → Nat → Int32} {q1 q2 q3 q4 : Nat → Int32} {x y mi : Int32} {sd : Nat} {X Y X2 Y2 : Nat → Int32} : ∀ k s, s < 120 → (cx_lo CC VV q1 q2 q3 q4 x y mi sd X Y k).1 s = (cx_lo CC VV q1 q2 q3 q4 x y mi sd X2 Y2 k).1 s ∧ (cx_lo CC VV q1 q2 q3 q4 x y mi sd X Y k).2 s = (cx_lo CC VV q1 q2 q3 q4 x y mi sd X2 Y2 k).2 s := by
  intro k
  induction k with
  | zero =>
    intro s hs
    rw [cx_lo, cx_lo]
    unfold ck_cp
    simp only [if_pos hs, and_self]
  | succ k ih =>
    intro s hs
    rw [cx_lo, cx_lo]
    split
    · exact cx_hs_c ih _ s hs
    · exact ih s hs
theorem cx_cf_c {X Y X2 Y2 : Nat → Int32} (h : ∀ s, s < 120 → X s = X2 s ∧ Y s = Y2 s) : ∀ n s ct bt la, s + n ≤ 120 → cx_cf X Y n s ct bt la = cx_cf X2 Y2 n s ct bt la := by
  intro n
  induction n with
  | zero => intro s ct bt la _; rfl
  | succ n ih =>
    intro s ct bt la hs
    obtain ⟨e1, e2⟩ := h s (by omega)
    rw [cx_cf, cx_cf, e1, e2, ih _ _ _ _ (by omega), ih _ _ _ _ (by omega)]
/-- what is heard: COUNT, bits -/
def cx_li (CC VV : Nat → Nat → Int32) (q1 q2 q3 q4 : Nat → Int32) (x y mi : Int32) (sd : Nat) : Int32 × Int32 :=
  cx_cf (cx_lo CC VV q1 q2 q3 q4 x y mi sd (fun _ => 0) (fun _ => 0) (min sd 200)).1 (cx_lo CC VV q1 q2 q3 q4 x y mi sd (fun _ => 0) (fun _ => 0) (min sd 200)).2 120 0 0 0 120
def bX7_listen_0 : List kx_O := [(.aload_n 0, 0, 0, 0, .null), (.getfield 28, 7, 5, 0, .null), (.iconst 0, 0, 0, 0, .int 0)]
theorem kX7_listen_0 : kx_oks kxL_X7 false cX7_listen 0 bX7_listen_0 = true := by decide +kernel
def bX7_listen_8 : List kx_O := [(.aload_n 0, 0, 0, 0, .null), (.getfield 31, 7, 6, 0, .null), (.iconst 0, 0, 0, 0, .int 0)]
theorem kX7_listen_8 : kx_oks kxL_X7 false cX7_listen 8 bX7_listen_8 = true := by decide +kernel
def bX7_listen_16 : List kx_O := [(.iconst 0, 0, 0, 0, .int 0), (.istore 5, 5, 0, 0, .null)]
theorem kX7_listen_16 : kx_oks kxL_X7 false cX7_listen 16 bX7_listen_16 = true := by decide +kernel
def bX7_listen_19 : List kx_O := [(.iload 5, 5, 0, 0, .null), (.aload_n 0, 0, 0, 0, .null)]
theorem kX7_listen_19 : kx_oks kxL_X7 false cX7_listen 19 bX7_listen_19 = true := by decide +kernel
def bX7_listen_25 : List kx_O := [(.if_icmp .ge 122, 147, 0, 0, .null)]
theorem kX7_listen_25 : kx_oks kxL_X7 false cX7_listen 25 bX7_listen_25 = true := by decide +kernel
def bX7_listen_28 : List kx_O := [(.aload_n 0, 0, 0, 0, .null), (.iload 5, 5, 0, 0, .null)]
theorem kX7_listen_28 : kx_oks kxL_X7 false cX7_listen 28 bX7_listen_28 = true := by decide +kernel
def bX7_listen_34 : List kx_O := [(.istore 6, 6, 0, 0, .null), (.aload_n 0, 0, 0, 0, .null), (.getfield 11, 7, 0, 0, .null), (.iload 6, 6, 0, 0, .null), (.iaload, 0, 0, 0, .null), (.istore 7, 7, 0, 0, .null), (.iload 7, 7, 0, 0, .null), (.ifCond .lt 17, 64, 0, 0, .null)]
theorem kX7_listen_34 : kx_oks kxL_X7 false cX7_listen 34 bX7_listen_34 = true := by decide +kernel
def bX7_listen_50 : List kx_O := [(.iload 7, 7, 0, 0, .null), (.aload_n 1, 1, 0, 0, .null), (.arraylength, 0, 0, 0, .null), (.if_icmp .ge 10, 64, 0, 0, .null)]
theorem kX7_listen_50 : kx_oks kxL_X7 false cX7_listen 50 bX7_listen_50 = true := by decide +kernel
def bX7_listen_57 : List kx_O := [(.aload_n 1, 1, 0, 0, .null), (.iload 7, 7, 0, 0, .null), (.aaload, 0, 0, 0, .null), (.goto 4, 65, 0, 0, .null)]
theorem kX7_listen_57 : kx_oks kxL_X7 false cX7_listen 57 bX7_listen_57 = true := by decide +kernel
def bX7_listen_64 : List kx_O := [(.aconst_null, 0, 0, 0, .null)]
theorem kX7_listen_64 : kx_oks kxL_X7 false cX7_listen 64 bX7_listen_64 = true := by decide +kernel
def bX7_listen_65 : List kx_O := [(.astore 8, 8, 0, 0, .null), (.aload 8, 8, 0, 0, .null), (.ifnull 72, 141, 0, 0, .null)]
theorem kX7_listen_65 : kx_oks kxL_X7 false cX7_listen 65 bX7_listen_65 = true := by decide +kernel
def bX7_listen_72 : List kx_O := [(.aload 8, 8, 0, 0, .null), (.iload_n 2, 2, 0, 0, .null), (.iload_n 3, 3, 0, 0, .null)]
theorem kX7_listen_72 : kx_oks kxL_X7 false cX7_listen 72 bX7_listen_72 = true := by decide +kernel
def bX7_listen_79 : List kx_O := [(.aload 8, 8, 0, 0, .null), (.getfield 68, 1, 2, 0, .null), (.getfield 72, 9, 7, 0, .null), (.if_icmp .gt 54, 141, 0, 0, .null)]
theorem kX7_listen_79 : kx_oks kxL_X7 false cX7_listen 79 bX7_listen_79 = true := by decide +kernel
def bX7_listen_90 : List kx_O := [(.aload_n 0, 0, 0, 0, .null), (.getfield 15, 7, 1, 0, .null), (.iload 6, 6, 0, 0, .null), (.iaload, 0, 0, 0, .null), (.aload 8, 8, 0, 0, .null), (.iload_n 2, 2, 0, 0, .null), (.iload_n 3, 3, 0, 0, .null)]
theorem kX7_listen_90 : kx_oks kxL_X7 false cX7_listen 90 bX7_listen_90 = true := by decide +kernel
def bX7_listen_104 : List kx_O := [(.bipush 10, 0, 0, 0, .int 10), (.idiv, 0, 0, 0, .null), (.iadd, 0, 0, 0, .null), (.bipush 60, 0, 0, 0, .int 60), (.iload 4, 4, 0, 0, .null), (.imul, 0, 0, 0, .null), (.isub, 0, 0, 0, .null), (.istore 9, 9, 0, 0, .null), (.aload_n 0, 0, 0, 0, .null), (.iload 9, 9, 0, 0, .null), (.aload_n 0, 0, 0, 0, .null), (.getfield 18, 7, 2, 0, .null), (.iload 6, 6, 0, 0, .null), (.iaload, 0, 0, 0, .null), (.aload_n 0, 0, 0, 0, .null), (.getfield 21, 7, 3, 0, .null), (.iload 6, 6, 0, 0, .null), (.iaload, 0, 0, 0, .null), (.iadd, 0, 0, 0, .null), (.iconst 1, 0, 0, 0, .int 1), (.iload 7, 7, 0, 0, .null), (.ishl, 0, 0, 0, .null)]
theorem kX7_listen_104 : kx_oks kxL_X7 false cX7_listen 104 bX7_listen_104 = true := by decide +kernel
def bX7_listen_141 : List kx_O := [(.iinc 5 1, 5, 0, 0, .int 1), (.goto (-125), 19, 0, 0, .null)]
theorem kX7_listen_141 : kx_oks kxL_X7 false cX7_listen 141 bX7_listen_141 = true := by decide +kernel
def bX7_listen_147 : List kx_O := [(.aload_n 0, 0, 0, 0, .null)]
theorem kX7_listen_147 : kx_oks kxL_X7 false cX7_listen 147 bX7_listen_147 = true := by decide +kernel
def bX7_listen_151 : List kx_O := [(.return_, 0, 0, 0, .null)]
theorem kX7_listen_151 : kx_oks kxL_X7 false cX7_listen 151 bX7_listen_151 = true := by decide +kernel
theorem dX7_listen_5 : decode cX7_listen 5 = .ok (.invokestatic 57, 3) := by decide +kernel
theorem dX7_listen_13 : decode cX7_listen 13 = .ok (.invokestatic 57, 3) := by decide +kernel
theorem dX7_listen_22 : decode cX7_listen 22 = .ok (.invokevirtual 49, 3) := by decide +kernel
theorem dX7_listen_31 : decode cX7_listen 31 = .ok (.invokevirtual 53, 3) := by decide +kernel
theorem dX7_listen_76 : decode cX7_listen 76 = .ok (.invokevirtual 63, 3) := by decide +kernel
theorem dX7_listen_101 : decode cX7_listen 101 = .ok (.invokevirtual 63, 3) := by decide +kernel
theorem dX7_listen_138 : decode cX7_listen 138 = .ok (.invokevirtual 77, 3) := by decide +kernel
theorem dX7_listen_148 : decode cX7_listen 148 = .ok (.invokevirtual 81, 3) := by decide +kernel
set_option maxRecDepth 100000 in
set_option maxHeartbeats 4000000 in
theorem ct_X7_listen (l : Launch) (G : kx_G) {P : kx_P} {sz : Nat} {F X Y q1 q2 q3 q4 : Nat → Int32} (hS : cx_SR P q1 q2 q3 q4) {sd cl : Nat} (h4 : F 4 = nI sd) (hsd : sd < 2 ^ 29) (hcl : cl ≤ 8) {cn wn : Nat → Nat} {DD : Nat → Int64} {HH : Nat → Value} {CC VV : Nat → Nat → Int32} (hCS : cx_CS P cl cn wn DD HH CC VV) (hso : cx_SO q1 q2 q3 q4 CC sd cl) {x y : Nat} (hx : x ≤ 99) (hy : y ≤ 99) {m : Nat} (hm : m ≤ 200000)  : kx_M l G sX7_listen 3 0 0 [.ref 71, .ref 69, .int (nI x), .int (nI y), .int (nI m)] (sW P (F) (X) (Y)) sz none (sW P (upd (upd F 7 (cx_li CC VV q1 q2 q3 q4 (nI x) (nI y) (nI m) sd).1) 8 (cx_li CC VV q1 q2 q3 q4 (nI x) (nI y) (nI m) sd).2) ((cx_lo CC VV q1 q2 q3 q4 (nI x) (nI y) (nI m) sd X Y (min sd 200)).1) ((cx_lo CC VV q1 q2 q3 q4 (nI x) (nI y) (nI m) sd X Y (min sd 200)).2)) sz := by
  obtain ⟨s1, s2, s3, s4⟩ := hS
  obtain ⟨h69, hcs⟩ := hCS
  have t1 : ∀ F X Y, sW P F X Y 72 = kI 0 200 q1 := fun _ _ _ => (sW_o (by decide) (by decide) (by decide)).trans s1
  have t2 : ∀ F X Y, sW P F X Y 73 = kI 0 200 q2 := fun _ _ _ => (sW_o (by decide) (by decide) (by decide)).trans s2
  have t3 : ∀ F X Y, sW P F X Y 74 = kI 0 200 q3 := fun _ _ _ => (sW_o (by decide) (by decide) (by decide)).trans s3
  have t4 : ∀ F X Y, sW P F X Y 75 = kI 0 200 q4 := fun _ _ _ => (sW_o (by decide) (by decide) (by decide)).trans s4
  have t5 : ∀ F X Y, sW P F X Y 69 = kR 8 (fun i => if i < cl then some (cn i) else none) := fun _ _ _ => (sW_o (by decide) (by decide) (by decide)).trans h69
  refine kx_mk kx_tab kxLok_X7 (ini := false) [some (.ref 71), some (.ref 69), some (.int (nI x)), some (.int (nI y)), some (.int (nI m)), none, none, none, none, none] ⟨by decide, rfl, by decide, by decide⟩ (rfl) rfl rfl (fun g hB hC => ?_)
  have loop19 : ∀ (n9 k : Nat) (a b c d e : Option Value), k + n9 = min sd 200 → g 19 [some (.ref 71), some (.ref 69), some (.int (nI x)), some (.int (nI y)), some (.int (nI m)), some (.int (nI k)), a, b, c, d] [] (sW P (F) ((cx_lo CC VV q1 q2 q3 q4 (nI x) (nI y) (nI m) sd X Y k).1) ((cx_lo CC VV q1 q2 q3 q4 (nI x) (nI y) (nI m) sd X Y k).2)) sz 0 0 := by
    intro n9
    induction n9 with
    | zero =>
      intro k a b c d e hk
      obtain rfl : k = min sd 200 := by omega
      refine hB bX7_listen_19 _ _ _ _ _ _ _ kX7_listen_19 ?_
      dsimp only [bX7_listen_19, kx_wp, kx_step, kx_lI, kx_lL, kx_lA, kx_gl, kx_pI, kx_pL, kx_pR, kx_pA, kx_pV, kx_s1, kx_s2, kx_sl, kx_pre, kx_c2, kx_pl, kx_cmp, kx_oF, kx_eqN, kx_nil, kx_c1, kx_ft, kx_aI, kx_aL, kx_aR, kx_ln, Nat.reduceAdd, Option.toList, List.cons_append, List.nil_append, cf7_5, cf7_6, cf7_0, cf1_2, cf9_7, cf7_1, cf7_2, cf7_3]
      repeat (simp only [sW_71, sW_76, sW_77, sW_p71, sW_p76, sW_p77, nI_1, t1, t2, t3, t4, t5, pk_us, pk_un, ne_eq, Nat.reduceEqDiff, not_false_eq_true, ks_eq, ks_ss]; try dsimp only [kx_wp, kx_step, kx_lI, kx_lL, kx_lA, kx_gl, kx_pI, kx_pL, kx_pR, kx_pA, kx_pV, kx_s1, kx_s2, kx_sl, kx_pre, kx_c2, kx_pl, kx_cmp, kx_oF, kx_eqN, kx_nil, kx_c1, kx_ft, kx_aI, kx_aL, kx_aR, kx_ln, Nat.reduceAdd, Option.toList, List.cons_append, List.nil_append, cf7_5, cf7_6, cf7_0, cf1_2, cf9_7, cf7_1, cf7_2, cf7_3])
      repeat' apply And.intro
      all_goals try (first | with_reducible assumption | (with_reducible refine ck_nzI ?_; simp; done) | (with_reducible refine ck_nzL ?_; simp; done) | (with_reducible refine vp_in_nI ?_ ?_ <;> first | omega | decide) | (with_reducible refine Nat.le_of_ble_eq_true ?_; rfl) | omega | exact Or.inl trivial | exact Or.inr trivial | exact Or.inl rfl | exact Or.inr rfl)
      refine hC.1 49 _ _ _ _ _ _ _ 7 _ _ _ _ _ _ _ _ _ _ _ _ lX7_49 (ct_X7_keptNow l G sW_71 h4 hsd) ⟨by decide, rfl⟩ (sW_71) rfl rfl (Nat.le_of_ble_eq_true rfl) (by decide) (by decide) (by omega) (by omega) dX7_listen_22 ?_
      refine hB bX7_listen_25 _ _ _ _ _ _ _ kX7_listen_25 ?_
      dsimp only [bX7_listen_25, kx_wp, kx_step, kx_lI, kx_lL, kx_lA, kx_gl, kx_pI, kx_pL, kx_pR, kx_pA, kx_pV, kx_s1, kx_s2, kx_sl, kx_pre, kx_c2, kx_pl, kx_cmp, kx_oF, kx_eqN, kx_nil, kx_c1, kx_ft, kx_aI, kx_aL, kx_aR, kx_ln, Nat.reduceAdd, Option.toList, List.cons_append, List.nil_append, cf7_5, cf7_6, cf7_0, cf1_2, cf9_7, cf7_1, cf7_2, cf7_3]
      repeat (simp only [sW_71, sW_76, sW_77, sW_p71, sW_p76, sW_p77, nI_1, t1, t2, t3, t4, t5, pk_us, pk_un, ne_eq, Nat.reduceEqDiff, not_false_eq_true, ks_eq, ks_ss]; try dsimp only [kx_wp, kx_step, kx_lI, kx_lL, kx_lA, kx_gl, kx_pI, kx_pL, kx_pR, kx_pA, kx_pV, kx_s1, kx_s2, kx_sl, kx_pre, kx_c2, kx_pl, kx_cmp, kx_oF, kx_eqN, kx_nil, kx_c1, kx_ft, kx_aI, kx_aL, kx_aR, kx_ln, Nat.reduceAdd, Option.toList, List.cons_append, List.nil_append, cf7_5, cf7_6, cf7_0, cf1_2, cf9_7, cf7_1, cf7_2, cf7_3])
      repeat' apply And.intro
      all_goals try (first | with_reducible assumption | (with_reducible refine ck_nzI ?_; simp; done) | (with_reducible refine ck_nzL ?_; simp; done) | (with_reducible refine vp_in_nI ?_ ?_ <;> first | omega | decide) | (with_reducible refine Nat.le_of_ble_eq_true ?_; rfl) | omega | exact Or.inl trivial | exact Or.inr trivial | exact Or.inl rfl | exact Or.inr rfl)
      · intro zc25
        with_reducible first | have ze25 := Int32.not_lt.mpr zc25 | have ze25 := zc25
        refine hB bX7_listen_147 _ _ _ _ _ _ _ kX7_listen_147 ?_
        dsimp only [bX7_listen_147, kx_wp, kx_step, kx_lI, kx_lL, kx_lA, kx_gl, kx_pI, kx_pL, kx_pR, kx_pA, kx_pV, kx_s1, kx_s2, kx_sl, kx_pre, kx_c2, kx_pl, kx_cmp, kx_oF, kx_eqN, kx_nil, kx_c1, kx_ft, kx_aI, kx_aL, kx_aR, kx_ln, Nat.reduceAdd, Option.toList, List.cons_append, List.nil_append, cf7_5, cf7_6, cf7_0, cf1_2, cf9_7, cf7_1, cf7_2, cf7_3]
        repeat (simp only [sW_71, sW_76, sW_77, sW_p71, sW_p76, sW_p77, nI_1, t1, t2, t3, t4, t5, pk_us, pk_un, ne_eq, Nat.reduceEqDiff, not_false_eq_true, ks_eq, ks_ss]; try dsimp only [kx_wp, kx_step, kx_lI, kx_lL, kx_lA, kx_gl, kx_pI, kx_pL, kx_pR, kx_pA, kx_pV, kx_s1, kx_s2, kx_sl, kx_pre, kx_c2, kx_pl, kx_cmp, kx_oF, kx_eqN, kx_nil, kx_c1, kx_ft, kx_aI, kx_aL, kx_aR, kx_ln, Nat.reduceAdd, Option.toList, List.cons_append, List.nil_append, cf7_5, cf7_6, cf7_0, cf1_2, cf9_7, cf7_1, cf7_2, cf7_3])
        repeat' apply And.intro
        all_goals try (first | with_reducible assumption | (with_reducible refine ck_nzI ?_; simp; done) | (with_reducible refine ck_nzL ?_; simp; done) | (with_reducible refine vp_in_nI ?_ ?_ <;> first | omega | decide) | (with_reducible refine Nat.le_of_ble_eq_true ?_; rfl) | omega | exact Or.inl trivial | exact Or.inr trivial | exact Or.inl rfl | exact Or.inr rfl)
        refine hC.1 81 _ _ _ _ _ _ _ 7 _ _ _ _ _ _ _ _ _ _ _ _ lX7_81 (ct_X7_countFirstRun l G) ⟨by decide, rfl⟩ (sW_71) rfl rfl (Nat.le_of_ble_eq_true rfl) (by decide) (by decide) (by omega) (by omega) dX7_listen_148 ?_
        refine hB bX7_listen_151 _ _ _ _ _ _ _ kX7_listen_151 ?_
        dsimp only [bX7_listen_151, kx_wp, kx_step, kx_lI, kx_lL, kx_lA, kx_gl, kx_pI, kx_pL, kx_pR, kx_pA, kx_pV, kx_s1, kx_s2, kx_sl, kx_pre, kx_c2, kx_pl, kx_cmp, kx_oF, kx_eqN, kx_nil, kx_c1, kx_ft, kx_aI, kx_aL, kx_aR, kx_ln, Nat.reduceAdd, Option.toList, List.cons_append, List.nil_append, cf7_5, cf7_6, cf7_0, cf1_2, cf9_7, cf7_1, cf7_2, cf7_3]
        repeat (simp only [sW_71, sW_76, sW_77, sW_p71, sW_p76, sW_p77, nI_1, t1, t2, t3, t4, t5, pk_us, pk_un, ne_eq, Nat.reduceEqDiff, not_false_eq_true, ks_eq, ks_ss]; try dsimp only [kx_wp, kx_step, kx_lI, kx_lL, kx_lA, kx_gl, kx_pI, kx_pL, kx_pR, kx_pA, kx_pV, kx_s1, kx_s2, kx_sl, kx_pre, kx_c2, kx_pl, kx_cmp, kx_oF, kx_eqN, kx_nil, kx_c1, kx_ft, kx_aI, kx_aL, kx_aR, kx_ln, Nat.reduceAdd, Option.toList, List.cons_append, List.nil_append, cf7_5, cf7_6, cf7_0, cf1_2, cf9_7, cf7_1, cf7_2, cf7_3])
        all_goals (repeat' apply And.intro)
        all_goals ((try clear hB hC); first | exact True.intro | skip)
        all_goals (have ze : cx_cf (cx_lo CC VV q1 q2 q3 q4 (nI x) (nI y) (nI m) sd X Y (min sd 200)).1 (cx_lo CC VV q1 q2 q3 q4 (nI x) (nI y) (nI m) sd X Y (min sd 200)).2 120 0 0 0 120 = (cx_li CC VV q1 q2 q3 q4 (nI x) (nI y) (nI m) sd) := cx_cf_c (fun s hs => cx_lo_c (min sd 200) s hs) _ _ _ _ _ (by omega))
        all_goals (rw [ze])
      · intro zc25
        first | exact absurd rfl zc25 | exact absurd zc25 (by decide) | exact absurd (by decide) zc25 | (exfalso; first | exact absurd ((nI_leI (a := min sd 200) (b := k) (by omega) (by omega)).mpr (by omega)) zc25 | exact absurd ((nI_leI (a := min sd 200) (b := k) (by omega) (by omega)).mp zc25) (by omega) | exact absurd ((nI_ltI (a := ci) (b := 0) (by omega) (by omega)).mp zc47) (by omega) | exact absurd ((nI_leI (a := 8) (b := ci) (by omega) (by omega)).mp zc54) (by omega) | exact zc87 (Int32.not_le.mp hfr) | exact absurd hfr (Int32.not_le.mpr zc87)) | (exfalso; simp_all; done)
    | succ n9 ih =>
      intro k a b c d e hk
      have hks : k < sd := by omega
      obtain ⟨ci, nn, q, hci, e1, e2, hnn, e3, hq⟩ := hso.1 ((sd - 1 - k) % 200) (Nat.mod_lt _ (by omega)) (Nat.lt_of_le_of_lt (Nat.mod_le _ _) (by omega))
      obtain ⟨hc1, hc2, hc3, hc4⟩ := hcs ci hci
      have hqc : ∀ F X Y, sW P F X Y (cn ci) = kO 1 (kf (cr1 (.ref (wn ci)) (DD ci) (HH ci)) (CC ci)) := fun _ _ _ => (sW_o (by omega) (by omega) (by omega)).trans hc1
      have hqw : ∀ F X Y, sW P F X Y (wn ci) = kO 9 (kf (cr9 (wn ci)) (VV ci)) := fun _ _ _ => (sW_o (by omega) (by omega) (by omega)).trans hc2
      obtain ⟨f, hf, e4⟩ := cx_lf_n hso hci hx hy
      have e5 : ck_abs (CC ci 0 - nI x) + ck_abs (CC ci 1 - nI y) = nI f := e4
      have e6 : nI f / 10 = nI (f / 10) := pk_div (d := 10) (by omega) (by omega) (by omega)
      have e7 : (60 : Int32) * nI m = nI (60 * m) := pk_mul 60 m
      have hb : -100000000 ≤ (nI q + nI (f / 10) - nI (60 * m)).toInt ∧ (nI q + nI (f / 10) - nI (60 * m)).toInt ≤ 100000000 := by
        rw [nI_add, pk_sub_toInt (by omega) (by omega)]; omega
      have e8 : (if ci < cl then some (cn ci) else none) = some (cn ci) := if_pos hci
      have e9 : va_rf (some (cn ci)) = .ref (cn ci) := rfl
      have c1 : (nI ci).toNatClampNeg = ci := nI_clamp (by omega)
      have c2 : (nI ((sd - 1 - k) % 200)).toNatClampNeg = (sd - 1 - k) % 200 := nI_clamp (by omega)
      have zi := fun a b c d e => ih (k + 1) a b c d e (by omega)
      simp only [cx_lo, e1, e2, e3, c1, e4, e6, e7, nI_clamp (show nn < 2 ^ 31 by omega)] at zi
      by_cases hfr : nI f ≤ VV ci 7
      · refine hB bX7_listen_19 _ _ _ _ _ _ _ kX7_listen_19 ?_
        dsimp only [bX7_listen_19, kx_wp, kx_step, kx_lI, kx_lL, kx_lA, kx_gl, kx_pI, kx_pL, kx_pR, kx_pA, kx_pV, kx_s1, kx_s2, kx_sl, kx_pre, kx_c2, kx_pl, kx_cmp, kx_oF, kx_eqN, kx_nil, kx_c1, kx_ft, kx_aI, kx_aL, kx_aR, kx_ln, Nat.reduceAdd, Option.toList, List.cons_append, List.nil_append, cf7_5, cf7_6, cf7_0, cf1_2, cf9_7, cf7_1, cf7_2, cf7_3]
        repeat (simp only [sW_71, sW_76, sW_77, sW_p71, sW_p76, sW_p77, nI_1, t1, t2, t3, t4, t5, pk_us, pk_un, ne_eq, Nat.reduceEqDiff, not_false_eq_true, ks_eq, ks_ss, hqc, hqw, e1, e2, e3, e5, e6, e7, e8, e9, c1, c2]; try dsimp only [kx_wp, kx_step, kx_lI, kx_lL, kx_lA, kx_gl, kx_pI, kx_pL, kx_pR, kx_pA, kx_pV, kx_s1, kx_s2, kx_sl, kx_pre, kx_c2, kx_pl, kx_cmp, kx_oF, kx_eqN, kx_nil, kx_c1, kx_ft, kx_aI, kx_aL, kx_aR, kx_ln, Nat.reduceAdd, Option.toList, List.cons_append, List.nil_append, cf7_5, cf7_6, cf7_0, cf1_2, cf9_7, cf7_1, cf7_2, cf7_3])
        repeat' apply And.intro
        all_goals try (first | with_reducible assumption | (with_reducible refine ck_nzI ?_; simp; done) | (with_reducible refine ck_nzL ?_; simp; done) | (with_reducible refine vp_in_nI ?_ ?_ <;> first | omega | decide) | (with_reducible refine Nat.le_of_ble_eq_true ?_; rfl) | omega | exact Or.inl trivial | exact Or.inr trivial | exact Or.inl rfl | exact Or.inr rfl)
        refine hC.1 49 _ _ _ _ _ _ _ 7 _ _ _ _ _ _ _ _ _ _ _ _ lX7_49 (ct_X7_keptNow l G sW_71 h4 hsd) ⟨by decide, rfl⟩ (sW_71) rfl rfl (Nat.le_of_ble_eq_true rfl) (by decide) (by decide) (by omega) (by omega) dX7_listen_22 ?_
        refine hB bX7_listen_25 _ _ _ _ _ _ _ kX7_listen_25 ?_
        dsimp only [bX7_listen_25, kx_wp, kx_step, kx_lI, kx_lL, kx_lA, kx_gl, kx_pI, kx_pL, kx_pR, kx_pA, kx_pV, kx_s1, kx_s2, kx_sl, kx_pre, kx_c2, kx_pl, kx_cmp, kx_oF, kx_eqN, kx_nil, kx_c1, kx_ft, kx_aI, kx_aL, kx_aR, kx_ln, Nat.reduceAdd, Option.toList, List.cons_append, List.nil_append, cf7_5, cf7_6, cf7_0, cf1_2, cf9_7, cf7_1, cf7_2, cf7_3]
        repeat (simp only [sW_71, sW_76, sW_77, sW_p71, sW_p76, sW_p77, nI_1, t1, t2, t3, t4, t5, pk_us, pk_un, ne_eq, Nat.reduceEqDiff, not_false_eq_true, ks_eq, ks_ss, hqc, hqw, e1, e2, e3, e5, e6, e7, e8, e9, c1, c2]; try dsimp only [kx_wp, kx_step, kx_lI, kx_lL, kx_lA, kx_gl, kx_pI, kx_pL, kx_pR, kx_pA, kx_pV, kx_s1, kx_s2, kx_sl, kx_pre, kx_c2, kx_pl, kx_cmp, kx_oF, kx_eqN, kx_nil, kx_c1, kx_ft, kx_aI, kx_aL, kx_aR, kx_ln, Nat.reduceAdd, Option.toList, List.cons_append, List.nil_append, cf7_5, cf7_6, cf7_0, cf1_2, cf9_7, cf7_1, cf7_2, cf7_3])
        repeat' apply And.intro
        all_goals try (first | with_reducible assumption | (with_reducible refine ck_nzI ?_; simp; done) | (with_reducible refine ck_nzL ?_; simp; done) | (with_reducible refine vp_in_nI ?_ ?_ <;> first | omega | decide) | (with_reducible refine Nat.le_of_ble_eq_true ?_; rfl) | omega | exact Or.inl trivial | exact Or.inr trivial | exact Or.inl rfl | exact Or.inr rfl)
        · intro zc25
          first | exact absurd rfl zc25 | exact absurd zc25 (by decide) | exact absurd (by decide) zc25 | (exfalso; first | exact absurd ((nI_leI (a := min sd 200) (b := k) (by omega) (by omega)).mpr (by omega)) zc25 | exact absurd ((nI_leI (a := min sd 200) (b := k) (by omega) (by omega)).mp zc25) (by omega) | exact absurd ((nI_ltI (a := ci) (b := 0) (by omega) (by omega)).mp zc47) (by omega) | exact absurd ((nI_leI (a := 8) (b := ci) (by omega) (by omega)).mp zc54) (by omega) | exact zc87 (Int32.not_le.mp hfr) | exact absurd hfr (Int32.not_le.mpr zc87)) | (exfalso; simp_all; done)
        · intro zc25
          with_reducible first | have ze25 := Int32.not_le.mp zc25 | have ze25 := zc25
          refine hB bX7_listen_28 _ _ _ _ _ _ _ kX7_listen_28 ?_
          dsimp only [bX7_listen_28, kx_wp, kx_step, kx_lI, kx_lL, kx_lA, kx_gl, kx_pI, kx_pL, kx_pR, kx_pA, kx_pV, kx_s1, kx_s2, kx_sl, kx_pre, kx_c2, kx_pl, kx_cmp, kx_oF, kx_eqN, kx_nil, kx_c1, kx_ft, kx_aI, kx_aL, kx_aR, kx_ln, Nat.reduceAdd, Option.toList, List.cons_append, List.nil_append, cf7_5, cf7_6, cf7_0, cf1_2, cf9_7, cf7_1, cf7_2, cf7_3]
          repeat (simp only [sW_71, sW_76, sW_77, sW_p71, sW_p76, sW_p77, nI_1, t1, t2, t3, t4, t5, pk_us, pk_un, ne_eq, Nat.reduceEqDiff, not_false_eq_true, ks_eq, ks_ss, hqc, hqw, e1, e2, e3, e5, e6, e7, e8, e9, c1, c2]; try dsimp only [kx_wp, kx_step, kx_lI, kx_lL, kx_lA, kx_gl, kx_pI, kx_pL, kx_pR, kx_pA, kx_pV, kx_s1, kx_s2, kx_sl, kx_pre, kx_c2, kx_pl, kx_cmp, kx_oF, kx_eqN, kx_nil, kx_c1, kx_ft, kx_aI, kx_aL, kx_aR, kx_ln, Nat.reduceAdd, Option.toList, List.cons_append, List.nil_append, cf7_5, cf7_6, cf7_0, cf1_2, cf9_7, cf7_1, cf7_2, cf7_3])
          repeat' apply And.intro
          all_goals try (first | with_reducible assumption | (with_reducible refine ck_nzI ?_; simp; done) | (with_reducible refine ck_nzL ?_; simp; done) | (with_reducible refine vp_in_nI ?_ ?_ <;> first | omega | decide) | (with_reducible refine Nat.le_of_ble_eq_true ?_; rfl) | omega | exact Or.inl trivial | exact Or.inr trivial | exact Or.inl rfl | exact Or.inr rfl)
          refine hC.1 53 _ _ _ _ _ _ _ 7 _ _ _ _ _ _ _ _ _ _ _ _ lX7_53 (ct_X7_rowOf l G sW_71 h4 hsd hks) ⟨by decide, rfl⟩ (sW_71) rfl rfl (Nat.le_of_ble_eq_true rfl) (by decide) (by decide) (by omega) (by omega) dX7_listen_31 ?_
          refine hB bX7_listen_34 _ _ _ _ _ _ _ kX7_listen_34 ?_
          dsimp only [bX7_listen_34, kx_wp, kx_step, kx_lI, kx_lL, kx_lA, kx_gl, kx_pI, kx_pL, kx_pR, kx_pA, kx_pV, kx_s1, kx_s2, kx_sl, kx_pre, kx_c2, kx_pl, kx_cmp, kx_oF, kx_eqN, kx_nil, kx_c1, kx_ft, kx_aI, kx_aL, kx_aR, kx_ln, Nat.reduceAdd, Option.toList, List.cons_append, List.nil_append, cf7_5, cf7_6, cf7_0, cf1_2, cf9_7, cf7_1, cf7_2, cf7_3]
          repeat (simp only [sW_71, sW_76, sW_77, sW_p71, sW_p76, sW_p77, nI_1, t1, t2, t3, t4, t5, pk_us, pk_un, ne_eq, Nat.reduceEqDiff, not_false_eq_true, ks_eq, ks_ss, hqc, hqw, e1, e2, e3, e5, e6, e7, e8, e9, c1, c2]; try dsimp only [kx_wp, kx_step, kx_lI, kx_lL, kx_lA, kx_gl, kx_pI, kx_pL, kx_pR, kx_pA, kx_pV, kx_s1, kx_s2, kx_sl, kx_pre, kx_c2, kx_pl, kx_cmp, kx_oF, kx_eqN, kx_nil, kx_c1, kx_ft, kx_aI, kx_aL, kx_aR, kx_ln, Nat.reduceAdd, Option.toList, List.cons_append, List.nil_append, cf7_5, cf7_6, cf7_0, cf1_2, cf9_7, cf7_1, cf7_2, cf7_3])
          repeat' apply And.intro
          all_goals try (first | with_reducible assumption | (with_reducible refine ck_nzI ?_; simp; done) | (with_reducible refine ck_nzL ?_; simp; done) | (with_reducible refine vp_in_nI ?_ ?_ <;> first | omega | decide) | (with_reducible refine Nat.le_of_ble_eq_true ?_; rfl) | omega | exact Or.inl trivial | exact Or.inr trivial | exact Or.inl rfl | exact Or.inr rfl)
          · intro zc47
            first | exact absurd rfl zc47 | exact absurd zc47 (by decide) | exact absurd (by decide) zc47 | (exfalso; first | exact absurd ((nI_leI (a := min sd 200) (b := k) (by omega) (by omega)).mpr (by omega)) zc25 | exact absurd ((nI_leI (a := min sd 200) (b := k) (by omega) (by omega)).mp zc25) (by omega) | exact absurd ((nI_ltI (a := ci) (b := 0) (by omega) (by omega)).mp zc47) (by omega) | exact absurd ((nI_leI (a := 8) (b := ci) (by omega) (by omega)).mp zc54) (by omega) | exact zc87 (Int32.not_le.mp hfr) | exact absurd hfr (Int32.not_le.mpr zc87)) | (exfalso; simp_all; done)
          · intro zc47
            with_reducible first | have ze47 := Int32.not_lt.mp zc47 | have ze47 := zc47
            refine hB bX7_listen_50 _ _ _ _ _ _ _ kX7_listen_50 ?_
            dsimp only [bX7_listen_50, kx_wp, kx_step, kx_lI, kx_lL, kx_lA, kx_gl, kx_pI, kx_pL, kx_pR, kx_pA, kx_pV, kx_s1, kx_s2, kx_sl, kx_pre, kx_c2, kx_pl, kx_cmp, kx_oF, kx_eqN, kx_nil, kx_c1, kx_ft, kx_aI, kx_aL, kx_aR, kx_ln, Nat.reduceAdd, Option.toList, List.cons_append, List.nil_append, cf7_5, cf7_6, cf7_0, cf1_2, cf9_7, cf7_1, cf7_2, cf7_3]
            repeat (simp only [sW_71, sW_76, sW_77, sW_p71, sW_p76, sW_p77, nI_1, t1, t2, t3, t4, t5, pk_us, pk_un, ne_eq, Nat.reduceEqDiff, not_false_eq_true, ks_eq, ks_ss, hqc, hqw, e1, e2, e3, e5, e6, e7, e8, e9, c1, c2]; try dsimp only [kx_wp, kx_step, kx_lI, kx_lL, kx_lA, kx_gl, kx_pI, kx_pL, kx_pR, kx_pA, kx_pV, kx_s1, kx_s2, kx_sl, kx_pre, kx_c2, kx_pl, kx_cmp, kx_oF, kx_eqN, kx_nil, kx_c1, kx_ft, kx_aI, kx_aL, kx_aR, kx_ln, Nat.reduceAdd, Option.toList, List.cons_append, List.nil_append, cf7_5, cf7_6, cf7_0, cf1_2, cf9_7, cf7_1, cf7_2, cf7_3])
            repeat' apply And.intro
            all_goals try (first | with_reducible assumption | (with_reducible refine ck_nzI ?_; simp; done) | (with_reducible refine ck_nzL ?_; simp; done) | (with_reducible refine vp_in_nI ?_ ?_ <;> first | omega | decide) | (with_reducible refine Nat.le_of_ble_eq_true ?_; rfl) | omega | exact Or.inl trivial | exact Or.inr trivial | exact Or.inl rfl | exact Or.inr rfl)
            · intro zc54
              first | exact absurd rfl zc54 | exact absurd zc54 (by decide) | exact absurd (by decide) zc54 | (exfalso; first | exact absurd ((nI_leI (a := min sd 200) (b := k) (by omega) (by omega)).mpr (by omega)) zc25 | exact absurd ((nI_leI (a := min sd 200) (b := k) (by omega) (by omega)).mp zc25) (by omega) | exact absurd ((nI_ltI (a := ci) (b := 0) (by omega) (by omega)).mp zc47) (by omega) | exact absurd ((nI_leI (a := 8) (b := ci) (by omega) (by omega)).mp zc54) (by omega) | exact zc87 (Int32.not_le.mp hfr) | exact absurd hfr (Int32.not_le.mpr zc87)) | (exfalso; simp_all; done)
            · intro zc54
              with_reducible first | have ze54 := Int32.not_le.mp zc54 | have ze54 := zc54
              refine hB bX7_listen_57 _ _ _ _ _ _ _ kX7_listen_57 ?_
              dsimp only [bX7_listen_57, kx_wp, kx_step, kx_lI, kx_lL, kx_lA, kx_gl, kx_pI, kx_pL, kx_pR, kx_pA, kx_pV, kx_s1, kx_s2, kx_sl, kx_pre, kx_c2, kx_pl, kx_cmp, kx_oF, kx_eqN, kx_nil, kx_c1, kx_ft, kx_aI, kx_aL, kx_aR, kx_ln, Nat.reduceAdd, Option.toList, List.cons_append, List.nil_append, cf7_5, cf7_6, cf7_0, cf1_2, cf9_7, cf7_1, cf7_2, cf7_3]
              repeat (simp only [sW_71, sW_76, sW_77, sW_p71, sW_p76, sW_p77, nI_1, t1, t2, t3, t4, t5, pk_us, pk_un, ne_eq, Nat.reduceEqDiff, not_false_eq_true, ks_eq, ks_ss, hqc, hqw, e1, e2, e3, e5, e6, e7, e8, e9, c1, c2]; try dsimp only [kx_wp, kx_step, kx_lI, kx_lL, kx_lA, kx_gl, kx_pI, kx_pL, kx_pR, kx_pA, kx_pV, kx_s1, kx_s2, kx_sl, kx_pre, kx_c2, kx_pl, kx_cmp, kx_oF, kx_eqN, kx_nil, kx_c1, kx_ft, kx_aI, kx_aL, kx_aR, kx_ln, Nat.reduceAdd, Option.toList, List.cons_append, List.nil_append, cf7_5, cf7_6, cf7_0, cf1_2, cf9_7, cf7_1, cf7_2, cf7_3])
              repeat' apply And.intro
              all_goals try (first | with_reducible assumption | (with_reducible refine ck_nzI ?_; simp; done) | (with_reducible refine ck_nzL ?_; simp; done) | (with_reducible refine vp_in_nI ?_ ?_ <;> first | omega | decide) | (with_reducible refine Nat.le_of_ble_eq_true ?_; rfl) | omega | exact Or.inl trivial | exact Or.inr trivial | exact Or.inl rfl | exact Or.inr rfl)
              refine hB bX7_listen_65 _ _ _ _ _ _ _ kX7_listen_65 ?_
              dsimp only [bX7_listen_65, kx_wp, kx_step, kx_lI, kx_lL, kx_lA, kx_gl, kx_pI, kx_pL, kx_pR, kx_pA, kx_pV, kx_s1, kx_s2, kx_sl, kx_pre, kx_c2, kx_pl, kx_cmp, kx_oF, kx_eqN, kx_nil, kx_c1, kx_ft, kx_aI, kx_aL, kx_aR, kx_ln, Nat.reduceAdd, Option.toList, List.cons_append, List.nil_append, cf7_5, cf7_6, cf7_0, cf1_2, cf9_7, cf7_1, cf7_2, cf7_3]
              repeat (simp only [sW_71, sW_76, sW_77, sW_p71, sW_p76, sW_p77, nI_1, t1, t2, t3, t4, t5, pk_us, pk_un, ne_eq, Nat.reduceEqDiff, not_false_eq_true, ks_eq, ks_ss, hqc, hqw, e1, e2, e3, e5, e6, e7, e8, e9, c1, c2]; try dsimp only [kx_wp, kx_step, kx_lI, kx_lL, kx_lA, kx_gl, kx_pI, kx_pL, kx_pR, kx_pA, kx_pV, kx_s1, kx_s2, kx_sl, kx_pre, kx_c2, kx_pl, kx_cmp, kx_oF, kx_eqN, kx_nil, kx_c1, kx_ft, kx_aI, kx_aL, kx_aR, kx_ln, Nat.reduceAdd, Option.toList, List.cons_append, List.nil_append, cf7_5, cf7_6, cf7_0, cf1_2, cf9_7, cf7_1, cf7_2, cf7_3])
              repeat' apply And.intro
              all_goals try (first | with_reducible assumption | (with_reducible refine ck_nzI ?_; simp; done) | (with_reducible refine ck_nzL ?_; simp; done) | (with_reducible refine vp_in_nI ?_ ?_ <;> first | omega | decide) | (with_reducible refine Nat.le_of_ble_eq_true ?_; rfl) | omega | exact Or.inl trivial | exact Or.inr trivial | exact Or.inl rfl | exact Or.inr rfl)
              refine hB bX7_listen_72 _ _ _ _ _ _ _ kX7_listen_72 ?_
              dsimp only [bX7_listen_72, kx_wp, kx_step, kx_lI, kx_lL, kx_lA, kx_gl, kx_pI, kx_pL, kx_pR, kx_pA, kx_pV, kx_s1, kx_s2, kx_sl, kx_pre, kx_c2, kx_pl, kx_cmp, kx_oF, kx_eqN, kx_nil, kx_c1, kx_ft, kx_aI, kx_aL, kx_aR, kx_ln, Nat.reduceAdd, Option.toList, List.cons_append, List.nil_append, cf7_5, cf7_6, cf7_0, cf1_2, cf9_7, cf7_1, cf7_2, cf7_3]
              repeat (simp only [sW_71, sW_76, sW_77, sW_p71, sW_p76, sW_p77, nI_1, t1, t2, t3, t4, t5, pk_us, pk_un, ne_eq, Nat.reduceEqDiff, not_false_eq_true, ks_eq, ks_ss, hqc, hqw, e1, e2, e3, e5, e6, e7, e8, e9, c1, c2]; try dsimp only [kx_wp, kx_step, kx_lI, kx_lL, kx_lA, kx_gl, kx_pI, kx_pL, kx_pR, kx_pA, kx_pV, kx_s1, kx_s2, kx_sl, kx_pre, kx_c2, kx_pl, kx_cmp, kx_oF, kx_eqN, kx_nil, kx_c1, kx_ft, kx_aI, kx_aL, kx_aR, kx_ln, Nat.reduceAdd, Option.toList, List.cons_append, List.nil_append, cf7_5, cf7_6, cf7_0, cf1_2, cf9_7, cf7_1, cf7_2, cf7_3])
              repeat' apply And.intro
              all_goals try (first | with_reducible assumption | (with_reducible refine ck_nzI ?_; simp; done) | (with_reducible refine ck_nzL ?_; simp; done) | (with_reducible refine vp_in_nI ?_ ?_ <;> first | omega | decide) | (with_reducible refine Nat.le_of_ble_eq_true ?_; rfl) | omega | exact Or.inl trivial | exact Or.inr trivial | exact Or.inl rfl | exact Or.inr rfl)
              refine hC.1 63 _ _ _ _ _ _ _ 1 _ _ _ _ _ _ _ _ _ _ _ _ lX7_63 (ct_X1_farFrom l G (r := fun _ => none) (hqc _ _ _)) ⟨by decide, rfl⟩ (hqc _ _ _) rfl rfl (Nat.le_of_ble_eq_true rfl) (by decide) (by decide) (by omega) (by omega) dX7_listen_76 ?_
              refine hB bX7_listen_79 _ _ _ _ _ _ _ kX7_listen_79 ?_
              dsimp only [bX7_listen_79, kx_wp, kx_step, kx_lI, kx_lL, kx_lA, kx_gl, kx_pI, kx_pL, kx_pR, kx_pA, kx_pV, kx_s1, kx_s2, kx_sl, kx_pre, kx_c2, kx_pl, kx_cmp, kx_oF, kx_eqN, kx_nil, kx_c1, kx_ft, kx_aI, kx_aL, kx_aR, kx_ln, Nat.reduceAdd, Option.toList, List.cons_append, List.nil_append, cf7_5, cf7_6, cf7_0, cf1_2, cf9_7, cf7_1, cf7_2, cf7_3]
              repeat (simp only [sW_71, sW_76, sW_77, sW_p71, sW_p76, sW_p77, nI_1, t1, t2, t3, t4, t5, pk_us, pk_un, ne_eq, Nat.reduceEqDiff, not_false_eq_true, ks_eq, ks_ss, hqc, hqw, e1, e2, e3, e5, e6, e7, e8, e9, c1, c2]; try dsimp only [kx_wp, kx_step, kx_lI, kx_lL, kx_lA, kx_gl, kx_pI, kx_pL, kx_pR, kx_pA, kx_pV, kx_s1, kx_s2, kx_sl, kx_pre, kx_c2, kx_pl, kx_cmp, kx_oF, kx_eqN, kx_nil, kx_c1, kx_ft, kx_aI, kx_aL, kx_aR, kx_ln, Nat.reduceAdd, Option.toList, List.cons_append, List.nil_append, cf7_5, cf7_6, cf7_0, cf1_2, cf9_7, cf7_1, cf7_2, cf7_3])
              repeat' apply And.intro
              all_goals try (first | with_reducible assumption | (with_reducible refine ck_nzI ?_; simp; done) | (with_reducible refine ck_nzL ?_; simp; done) | (with_reducible refine vp_in_nI ?_ ?_ <;> first | omega | decide) | (with_reducible refine Nat.le_of_ble_eq_true ?_; rfl) | omega | exact Or.inl trivial | exact Or.inr trivial | exact Or.inl rfl | exact Or.inr rfl)
              · intro zc87
                first | exact absurd rfl zc87 | exact absurd zc87 (by decide) | exact absurd (by decide) zc87 | (exfalso; first | exact absurd ((nI_leI (a := min sd 200) (b := k) (by omega) (by omega)).mpr (by omega)) zc25 | exact absurd ((nI_leI (a := min sd 200) (b := k) (by omega) (by omega)).mp zc25) (by omega) | exact absurd ((nI_ltI (a := ci) (b := 0) (by omega) (by omega)).mp zc47) (by omega) | exact absurd ((nI_leI (a := 8) (b := ci) (by omega) (by omega)).mp zc54) (by omega) | exact zc87 (Int32.not_le.mp hfr) | exact absurd hfr (Int32.not_le.mpr zc87)) | (exfalso; simp_all; done)
              · intro zc87
                with_reducible first | have ze87 := Int32.not_lt.mp zc87 | have ze87 := zc87
                refine hB bX7_listen_90 _ _ _ _ _ _ _ kX7_listen_90 ?_
                dsimp only [bX7_listen_90, kx_wp, kx_step, kx_lI, kx_lL, kx_lA, kx_gl, kx_pI, kx_pL, kx_pR, kx_pA, kx_pV, kx_s1, kx_s2, kx_sl, kx_pre, kx_c2, kx_pl, kx_cmp, kx_oF, kx_eqN, kx_nil, kx_c1, kx_ft, kx_aI, kx_aL, kx_aR, kx_ln, Nat.reduceAdd, Option.toList, List.cons_append, List.nil_append, cf7_5, cf7_6, cf7_0, cf1_2, cf9_7, cf7_1, cf7_2, cf7_3]
                repeat (simp only [sW_71, sW_76, sW_77, sW_p71, sW_p76, sW_p77, nI_1, t1, t2, t3, t4, t5, pk_us, pk_un, ne_eq, Nat.reduceEqDiff, not_false_eq_true, ks_eq, ks_ss, hqc, hqw, e1, e2, e3, e5, e6, e7, e8, e9, c1, c2]; try dsimp only [kx_wp, kx_step, kx_lI, kx_lL, kx_lA, kx_gl, kx_pI, kx_pL, kx_pR, kx_pA, kx_pV, kx_s1, kx_s2, kx_sl, kx_pre, kx_c2, kx_pl, kx_cmp, kx_oF, kx_eqN, kx_nil, kx_c1, kx_ft, kx_aI, kx_aL, kx_aR, kx_ln, Nat.reduceAdd, Option.toList, List.cons_append, List.nil_append, cf7_5, cf7_6, cf7_0, cf1_2, cf9_7, cf7_1, cf7_2, cf7_3])
                repeat' apply And.intro
                all_goals try (first | with_reducible assumption | (with_reducible refine ck_nzI ?_; simp; done) | (with_reducible refine ck_nzL ?_; simp; done) | (with_reducible refine vp_in_nI ?_ ?_ <;> first | omega | decide) | (with_reducible refine Nat.le_of_ble_eq_true ?_; rfl) | omega | exact Or.inl trivial | exact Or.inr trivial | exact Or.inl rfl | exact Or.inr rfl)
                refine hC.1 63 _ _ _ _ _ _ _ 1 _ _ _ _ _ _ _ _ _ _ _ _ lX7_63 (ct_X1_farFrom l G (r := fun _ => none) (hqc _ _ _)) ⟨by decide, rfl⟩ (hqc _ _ _) rfl rfl (Nat.le_of_ble_eq_true rfl) (by decide) (by decide) (by omega) (by omega) dX7_listen_101 ?_
                refine hB bX7_listen_104 _ _ _ _ _ _ _ kX7_listen_104 ?_
                dsimp only [bX7_listen_104, kx_wp, kx_step, kx_lI, kx_lL, kx_lA, kx_gl, kx_pI, kx_pL, kx_pR, kx_pA, kx_pV, kx_s1, kx_s2, kx_sl, kx_pre, kx_c2, kx_pl, kx_cmp, kx_oF, kx_eqN, kx_nil, kx_c1, kx_ft, kx_aI, kx_aL, kx_aR, kx_ln, Nat.reduceAdd, Option.toList, List.cons_append, List.nil_append, cf7_5, cf7_6, cf7_0, cf1_2, cf9_7, cf7_1, cf7_2, cf7_3]
                repeat (simp only [sW_71, sW_76, sW_77, sW_p71, sW_p76, sW_p77, nI_1, t1, t2, t3, t4, t5, pk_us, pk_un, ne_eq, Nat.reduceEqDiff, not_false_eq_true, ks_eq, ks_ss, hqc, hqw, e1, e2, e3, e5, e6, e7, e8, e9, c1, c2]; try dsimp only [kx_wp, kx_step, kx_lI, kx_lL, kx_lA, kx_gl, kx_pI, kx_pL, kx_pR, kx_pA, kx_pV, kx_s1, kx_s2, kx_sl, kx_pre, kx_c2, kx_pl, kx_cmp, kx_oF, kx_eqN, kx_nil, kx_c1, kx_ft, kx_aI, kx_aL, kx_aR, kx_ln, Nat.reduceAdd, Option.toList, List.cons_append, List.nil_append, cf7_5, cf7_6, cf7_0, cf1_2, cf9_7, cf7_1, cf7_2, cf7_3])
                repeat' apply And.intro
                all_goals try (first | with_reducible assumption | (with_reducible refine ck_nzI ?_; simp; done) | (with_reducible refine ck_nzL ?_; simp; done) | (with_reducible refine vp_in_nI ?_ ?_ <;> first | omega | decide) | (with_reducible refine Nat.le_of_ble_eq_true ?_; rfl) | omega | exact Or.inl trivial | exact Or.inr trivial | exact Or.inl rfl | exact Or.inr rfl)
                refine hC.1 77 _ _ _ _ _ _ _ 7 _ _ _ _ _ _ _ _ _ _ _ _ lX7_77 (ct_X7_hearStrokes l G hb hnn) ⟨by decide, rfl⟩ (sW_71) rfl rfl (Nat.le_of_ble_eq_true rfl) (by decide) (by decide) (by omega) (by omega) dX7_listen_138 ?_
                refine hB bX7_listen_141 _ _ _ _ _ _ _ kX7_listen_141 ?_
                dsimp only [bX7_listen_141, kx_wp, kx_step, kx_lI, kx_lL, kx_lA, kx_gl, kx_pI, kx_pL, kx_pR, kx_pA, kx_pV, kx_s1, kx_s2, kx_sl, kx_pre, kx_c2, kx_pl, kx_cmp, kx_oF, kx_eqN, kx_nil, kx_c1, kx_ft, kx_aI, kx_aL, kx_aR, kx_ln, Nat.reduceAdd, Option.toList, List.cons_append, List.nil_append, cf7_5, cf7_6, cf7_0, cf1_2, cf9_7, cf7_1, cf7_2, cf7_3]
                repeat (simp only [sW_71, sW_76, sW_77, sW_p71, sW_p76, sW_p77, nI_1, t1, t2, t3, t4, t5, pk_us, pk_un, ne_eq, Nat.reduceEqDiff, not_false_eq_true, ks_eq, ks_ss, hqc, hqw, e1, e2, e3, e5, e6, e7, e8, e9, c1, c2]; try dsimp only [kx_wp, kx_step, kx_lI, kx_lL, kx_lA, kx_gl, kx_pI, kx_pL, kx_pR, kx_pA, kx_pV, kx_s1, kx_s2, kx_sl, kx_pre, kx_c2, kx_pl, kx_cmp, kx_oF, kx_eqN, kx_nil, kx_c1, kx_ft, kx_aI, kx_aL, kx_aR, kx_ln, Nat.reduceAdd, Option.toList, List.cons_append, List.nil_append, cf7_5, cf7_6, cf7_0, cf1_2, cf9_7, cf7_1, cf7_2, cf7_3])
                repeat' apply And.intro
                all_goals try (first | with_reducible assumption | (with_reducible refine ck_nzI ?_; simp; done) | (with_reducible refine ck_nzL ?_; simp; done) | (with_reducible refine vp_in_nI ?_ ?_ <;> first | omega | decide) | (with_reducible refine Nat.le_of_ble_eq_true ?_; rfl) | omega | exact Or.inl trivial | exact Or.inr trivial | exact Or.inl rfl | exact Or.inr rfl)
                simp only [if_pos hfr] at zi
                exact zi _ _ _ _ none
      · refine hB bX7_listen_19 _ _ _ _ _ _ _ kX7_listen_19 ?_
        dsimp only [bX7_listen_19, kx_wp, kx_step, kx_lI, kx_lL, kx_lA, kx_gl, kx_pI, kx_pL, kx_pR, kx_pA, kx_pV, kx_s1, kx_s2, kx_sl, kx_pre, kx_c2, kx_pl, kx_cmp, kx_oF, kx_eqN, kx_nil, kx_c1, kx_ft, kx_aI, kx_aL, kx_aR, kx_ln, Nat.reduceAdd, Option.toList, List.cons_append, List.nil_append, cf7_5, cf7_6, cf7_0, cf1_2, cf9_7, cf7_1, cf7_2, cf7_3]
        repeat (simp only [sW_71, sW_76, sW_77, sW_p71, sW_p76, sW_p77, nI_1, t1, t2, t3, t4, t5, pk_us, pk_un, ne_eq, Nat.reduceEqDiff, not_false_eq_true, ks_eq, ks_ss, hqc, hqw, e1, e2, e3, e5, e6, e7, e8, e9, c1, c2]; try dsimp only [kx_wp, kx_step, kx_lI, kx_lL, kx_lA, kx_gl, kx_pI, kx_pL, kx_pR, kx_pA, kx_pV, kx_s1, kx_s2, kx_sl, kx_pre, kx_c2, kx_pl, kx_cmp, kx_oF, kx_eqN, kx_nil, kx_c1, kx_ft, kx_aI, kx_aL, kx_aR, kx_ln, Nat.reduceAdd, Option.toList, List.cons_append, List.nil_append, cf7_5, cf7_6, cf7_0, cf1_2, cf9_7, cf7_1, cf7_2, cf7_3])
        repeat' apply And.intro
        all_goals try (first | with_reducible assumption | (with_reducible refine ck_nzI ?_; simp; done) | (with_reducible refine ck_nzL ?_; simp; done) | (with_reducible refine vp_in_nI ?_ ?_ <;> first | omega | decide) | (with_reducible refine Nat.le_of_ble_eq_true ?_; rfl) | omega | exact Or.inl trivial | exact Or.inr trivial | exact Or.inl rfl | exact Or.inr rfl)
        refine hC.1 49 _ _ _ _ _ _ _ 7 _ _ _ _ _ _ _ _ _ _ _ _ lX7_49 (ct_X7_keptNow l G sW_71 h4 hsd) ⟨by decide, rfl⟩ (sW_71) rfl rfl (Nat.le_of_ble_eq_true rfl) (by decide) (by decide) (by omega) (by omega) dX7_listen_22 ?_
        refine hB bX7_listen_25 _ _ _ _ _ _ _ kX7_listen_25 ?_
        dsimp only [bX7_listen_25, kx_wp, kx_step, kx_lI, kx_lL, kx_lA, kx_gl, kx_pI, kx_pL, kx_pR, kx_pA, kx_pV, kx_s1, kx_s2, kx_sl, kx_pre, kx_c2, kx_pl, kx_cmp, kx_oF, kx_eqN, kx_nil, kx_c1, kx_ft, kx_aI, kx_aL, kx_aR, kx_ln, Nat.reduceAdd, Option.toList, List.cons_append, List.nil_append, cf7_5, cf7_6, cf7_0, cf1_2, cf9_7, cf7_1, cf7_2, cf7_3]
        repeat (simp only [sW_71, sW_76, sW_77, sW_p71, sW_p76, sW_p77, nI_1, t1, t2, t3, t4, t5, pk_us, pk_un, ne_eq, Nat.reduceEqDiff, not_false_eq_true, ks_eq, ks_ss, hqc, hqw, e1, e2, e3, e5, e6, e7, e8, e9, c1, c2]; try dsimp only [kx_wp, kx_step, kx_lI, kx_lL, kx_lA, kx_gl, kx_pI, kx_pL, kx_pR, kx_pA, kx_pV, kx_s1, kx_s2, kx_sl, kx_pre, kx_c2, kx_pl, kx_cmp, kx_oF, kx_eqN, kx_nil, kx_c1, kx_ft, kx_aI, kx_aL, kx_aR, kx_ln, Nat.reduceAdd, Option.toList, List.cons_append, List.nil_append, cf7_5, cf7_6, cf7_0, cf1_2, cf9_7, cf7_1, cf7_2, cf7_3])
        repeat' apply And.intro
        all_goals try (first | with_reducible assumption | (with_reducible refine ck_nzI ?_; simp; done) | (with_reducible refine ck_nzL ?_; simp; done) | (with_reducible refine vp_in_nI ?_ ?_ <;> first | omega | decide) | (with_reducible refine Nat.le_of_ble_eq_true ?_; rfl) | omega | exact Or.inl trivial | exact Or.inr trivial | exact Or.inl rfl | exact Or.inr rfl)
        · intro zc25
          first | exact absurd rfl zc25 | exact absurd zc25 (by decide) | exact absurd (by decide) zc25 | (exfalso; first | exact absurd ((nI_leI (a := min sd 200) (b := k) (by omega) (by omega)).mpr (by omega)) zc25 | exact absurd ((nI_leI (a := min sd 200) (b := k) (by omega) (by omega)).mp zc25) (by omega) | exact absurd ((nI_ltI (a := ci) (b := 0) (by omega) (by omega)).mp zc47) (by omega) | exact absurd ((nI_leI (a := 8) (b := ci) (by omega) (by omega)).mp zc54) (by omega) | exact zc87 (Int32.not_le.mp hfr) | exact absurd hfr (Int32.not_le.mpr zc87)) | (exfalso; simp_all; done)
        · intro zc25
          with_reducible first | have ze25 := Int32.not_le.mp zc25 | have ze25 := zc25
          refine hB bX7_listen_28 _ _ _ _ _ _ _ kX7_listen_28 ?_
          dsimp only [bX7_listen_28, kx_wp, kx_step, kx_lI, kx_lL, kx_lA, kx_gl, kx_pI, kx_pL, kx_pR, kx_pA, kx_pV, kx_s1, kx_s2, kx_sl, kx_pre, kx_c2, kx_pl, kx_cmp, kx_oF, kx_eqN, kx_nil, kx_c1, kx_ft, kx_aI, kx_aL, kx_aR, kx_ln, Nat.reduceAdd, Option.toList, List.cons_append, List.nil_append, cf7_5, cf7_6, cf7_0, cf1_2, cf9_7, cf7_1, cf7_2, cf7_3]
          repeat (simp only [sW_71, sW_76, sW_77, sW_p71, sW_p76, sW_p77, nI_1, t1, t2, t3, t4, t5, pk_us, pk_un, ne_eq, Nat.reduceEqDiff, not_false_eq_true, ks_eq, ks_ss, hqc, hqw, e1, e2, e3, e5, e6, e7, e8, e9, c1, c2]; try dsimp only [kx_wp, kx_step, kx_lI, kx_lL, kx_lA, kx_gl, kx_pI, kx_pL, kx_pR, kx_pA, kx_pV, kx_s1, kx_s2, kx_sl, kx_pre, kx_c2, kx_pl, kx_cmp, kx_oF, kx_eqN, kx_nil, kx_c1, kx_ft, kx_aI, kx_aL, kx_aR, kx_ln, Nat.reduceAdd, Option.toList, List.cons_append, List.nil_append, cf7_5, cf7_6, cf7_0, cf1_2, cf9_7, cf7_1, cf7_2, cf7_3])
          repeat' apply And.intro
          all_goals try (first | with_reducible assumption | (with_reducible refine ck_nzI ?_; simp; done) | (with_reducible refine ck_nzL ?_; simp; done) | (with_reducible refine vp_in_nI ?_ ?_ <;> first | omega | decide) | (with_reducible refine Nat.le_of_ble_eq_true ?_; rfl) | omega | exact Or.inl trivial | exact Or.inr trivial | exact Or.inl rfl | exact Or.inr rfl)
          refine hC.1 53 _ _ _ _ _ _ _ 7 _ _ _ _ _ _ _ _ _ _ _ _ lX7_53 (ct_X7_rowOf l G sW_71 h4 hsd hks) ⟨by decide, rfl⟩ (sW_71) rfl rfl (Nat.le_of_ble_eq_true rfl) (by decide) (by decide) (by omega) (by omega) dX7_listen_31 ?_
          refine hB bX7_listen_34 _ _ _ _ _ _ _ kX7_listen_34 ?_
          dsimp only [bX7_listen_34, kx_wp, kx_step, kx_lI, kx_lL, kx_lA, kx_gl, kx_pI, kx_pL, kx_pR, kx_pA, kx_pV, kx_s1, kx_s2, kx_sl, kx_pre, kx_c2, kx_pl, kx_cmp, kx_oF, kx_eqN, kx_nil, kx_c1, kx_ft, kx_aI, kx_aL, kx_aR, kx_ln, Nat.reduceAdd, Option.toList, List.cons_append, List.nil_append, cf7_5, cf7_6, cf7_0, cf1_2, cf9_7, cf7_1, cf7_2, cf7_3]
          repeat (simp only [sW_71, sW_76, sW_77, sW_p71, sW_p76, sW_p77, nI_1, t1, t2, t3, t4, t5, pk_us, pk_un, ne_eq, Nat.reduceEqDiff, not_false_eq_true, ks_eq, ks_ss, hqc, hqw, e1, e2, e3, e5, e6, e7, e8, e9, c1, c2]; try dsimp only [kx_wp, kx_step, kx_lI, kx_lL, kx_lA, kx_gl, kx_pI, kx_pL, kx_pR, kx_pA, kx_pV, kx_s1, kx_s2, kx_sl, kx_pre, kx_c2, kx_pl, kx_cmp, kx_oF, kx_eqN, kx_nil, kx_c1, kx_ft, kx_aI, kx_aL, kx_aR, kx_ln, Nat.reduceAdd, Option.toList, List.cons_append, List.nil_append, cf7_5, cf7_6, cf7_0, cf1_2, cf9_7, cf7_1, cf7_2, cf7_3])
          repeat' apply And.intro
          all_goals try (first | with_reducible assumption | (with_reducible refine ck_nzI ?_; simp; done) | (with_reducible refine ck_nzL ?_; simp; done) | (with_reducible refine vp_in_nI ?_ ?_ <;> first | omega | decide) | (with_reducible refine Nat.le_of_ble_eq_true ?_; rfl) | omega | exact Or.inl trivial | exact Or.inr trivial | exact Or.inl rfl | exact Or.inr rfl)
          · intro zc47
            first | exact absurd rfl zc47 | exact absurd zc47 (by decide) | exact absurd (by decide) zc47 | (exfalso; first | exact absurd ((nI_leI (a := min sd 200) (b := k) (by omega) (by omega)).mpr (by omega)) zc25 | exact absurd ((nI_leI (a := min sd 200) (b := k) (by omega) (by omega)).mp zc25) (by omega) | exact absurd ((nI_ltI (a := ci) (b := 0) (by omega) (by omega)).mp zc47) (by omega) | exact absurd ((nI_leI (a := 8) (b := ci) (by omega) (by omega)).mp zc54) (by omega) | exact zc87 (Int32.not_le.mp hfr) | exact absurd hfr (Int32.not_le.mpr zc87)) | (exfalso; simp_all; done)
          · intro zc47
            with_reducible first | have ze47 := Int32.not_lt.mp zc47 | have ze47 := zc47
            refine hB bX7_listen_50 _ _ _ _ _ _ _ kX7_listen_50 ?_
            dsimp only [bX7_listen_50, kx_wp, kx_step, kx_lI, kx_lL, kx_lA, kx_gl, kx_pI, kx_pL, kx_pR, kx_pA, kx_pV, kx_s1, kx_s2, kx_sl, kx_pre, kx_c2, kx_pl, kx_cmp, kx_oF, kx_eqN, kx_nil, kx_c1, kx_ft, kx_aI, kx_aL, kx_aR, kx_ln, Nat.reduceAdd, Option.toList, List.cons_append, List.nil_append, cf7_5, cf7_6, cf7_0, cf1_2, cf9_7, cf7_1, cf7_2, cf7_3]
            repeat (simp only [sW_71, sW_76, sW_77, sW_p71, sW_p76, sW_p77, nI_1, t1, t2, t3, t4, t5, pk_us, pk_un, ne_eq, Nat.reduceEqDiff, not_false_eq_true, ks_eq, ks_ss, hqc, hqw, e1, e2, e3, e5, e6, e7, e8, e9, c1, c2]; try dsimp only [kx_wp, kx_step, kx_lI, kx_lL, kx_lA, kx_gl, kx_pI, kx_pL, kx_pR, kx_pA, kx_pV, kx_s1, kx_s2, kx_sl, kx_pre, kx_c2, kx_pl, kx_cmp, kx_oF, kx_eqN, kx_nil, kx_c1, kx_ft, kx_aI, kx_aL, kx_aR, kx_ln, Nat.reduceAdd, Option.toList, List.cons_append, List.nil_append, cf7_5, cf7_6, cf7_0, cf1_2, cf9_7, cf7_1, cf7_2, cf7_3])
            repeat' apply And.intro
            all_goals try (first | with_reducible assumption | (with_reducible refine ck_nzI ?_; simp; done) | (with_reducible refine ck_nzL ?_; simp; done) | (with_reducible refine vp_in_nI ?_ ?_ <;> first | omega | decide) | (with_reducible refine Nat.le_of_ble_eq_true ?_; rfl) | omega | exact Or.inl trivial | exact Or.inr trivial | exact Or.inl rfl | exact Or.inr rfl)
            · intro zc54
              first | exact absurd rfl zc54 | exact absurd zc54 (by decide) | exact absurd (by decide) zc54 | (exfalso; first | exact absurd ((nI_leI (a := min sd 200) (b := k) (by omega) (by omega)).mpr (by omega)) zc25 | exact absurd ((nI_leI (a := min sd 200) (b := k) (by omega) (by omega)).mp zc25) (by omega) | exact absurd ((nI_ltI (a := ci) (b := 0) (by omega) (by omega)).mp zc47) (by omega) | exact absurd ((nI_leI (a := 8) (b := ci) (by omega) (by omega)).mp zc54) (by omega) | exact zc87 (Int32.not_le.mp hfr) | exact absurd hfr (Int32.not_le.mpr zc87)) | (exfalso; simp_all; done)
            · intro zc54
              with_reducible first | have ze54 := Int32.not_le.mp zc54 | have ze54 := zc54
              refine hB bX7_listen_57 _ _ _ _ _ _ _ kX7_listen_57 ?_
              dsimp only [bX7_listen_57, kx_wp, kx_step, kx_lI, kx_lL, kx_lA, kx_gl, kx_pI, kx_pL, kx_pR, kx_pA, kx_pV, kx_s1, kx_s2, kx_sl, kx_pre, kx_c2, kx_pl, kx_cmp, kx_oF, kx_eqN, kx_nil, kx_c1, kx_ft, kx_aI, kx_aL, kx_aR, kx_ln, Nat.reduceAdd, Option.toList, List.cons_append, List.nil_append, cf7_5, cf7_6, cf7_0, cf1_2, cf9_7, cf7_1, cf7_2, cf7_3]
              repeat (simp only [sW_71, sW_76, sW_77, sW_p71, sW_p76, sW_p77, nI_1, t1, t2, t3, t4, t5, pk_us, pk_un, ne_eq, Nat.reduceEqDiff, not_false_eq_true, ks_eq, ks_ss, hqc, hqw, e1, e2, e3, e5, e6, e7, e8, e9, c1, c2]; try dsimp only [kx_wp, kx_step, kx_lI, kx_lL, kx_lA, kx_gl, kx_pI, kx_pL, kx_pR, kx_pA, kx_pV, kx_s1, kx_s2, kx_sl, kx_pre, kx_c2, kx_pl, kx_cmp, kx_oF, kx_eqN, kx_nil, kx_c1, kx_ft, kx_aI, kx_aL, kx_aR, kx_ln, Nat.reduceAdd, Option.toList, List.cons_append, List.nil_append, cf7_5, cf7_6, cf7_0, cf1_2, cf9_7, cf7_1, cf7_2, cf7_3])
              repeat' apply And.intro
              all_goals try (first | with_reducible assumption | (with_reducible refine ck_nzI ?_; simp; done) | (with_reducible refine ck_nzL ?_; simp; done) | (with_reducible refine vp_in_nI ?_ ?_ <;> first | omega | decide) | (with_reducible refine Nat.le_of_ble_eq_true ?_; rfl) | omega | exact Or.inl trivial | exact Or.inr trivial | exact Or.inl rfl | exact Or.inr rfl)
              refine hB bX7_listen_65 _ _ _ _ _ _ _ kX7_listen_65 ?_
              dsimp only [bX7_listen_65, kx_wp, kx_step, kx_lI, kx_lL, kx_lA, kx_gl, kx_pI, kx_pL, kx_pR, kx_pA, kx_pV, kx_s1, kx_s2, kx_sl, kx_pre, kx_c2, kx_pl, kx_cmp, kx_oF, kx_eqN, kx_nil, kx_c1, kx_ft, kx_aI, kx_aL, kx_aR, kx_ln, Nat.reduceAdd, Option.toList, List.cons_append, List.nil_append, cf7_5, cf7_6, cf7_0, cf1_2, cf9_7, cf7_1, cf7_2, cf7_3]
              repeat (simp only [sW_71, sW_76, sW_77, sW_p71, sW_p76, sW_p77, nI_1, t1, t2, t3, t4, t5, pk_us, pk_un, ne_eq, Nat.reduceEqDiff, not_false_eq_true, ks_eq, ks_ss, hqc, hqw, e1, e2, e3, e5, e6, e7, e8, e9, c1, c2]; try dsimp only [kx_wp, kx_step, kx_lI, kx_lL, kx_lA, kx_gl, kx_pI, kx_pL, kx_pR, kx_pA, kx_pV, kx_s1, kx_s2, kx_sl, kx_pre, kx_c2, kx_pl, kx_cmp, kx_oF, kx_eqN, kx_nil, kx_c1, kx_ft, kx_aI, kx_aL, kx_aR, kx_ln, Nat.reduceAdd, Option.toList, List.cons_append, List.nil_append, cf7_5, cf7_6, cf7_0, cf1_2, cf9_7, cf7_1, cf7_2, cf7_3])
              repeat' apply And.intro
              all_goals try (first | with_reducible assumption | (with_reducible refine ck_nzI ?_; simp; done) | (with_reducible refine ck_nzL ?_; simp; done) | (with_reducible refine vp_in_nI ?_ ?_ <;> first | omega | decide) | (with_reducible refine Nat.le_of_ble_eq_true ?_; rfl) | omega | exact Or.inl trivial | exact Or.inr trivial | exact Or.inl rfl | exact Or.inr rfl)
              refine hB bX7_listen_72 _ _ _ _ _ _ _ kX7_listen_72 ?_
              dsimp only [bX7_listen_72, kx_wp, kx_step, kx_lI, kx_lL, kx_lA, kx_gl, kx_pI, kx_pL, kx_pR, kx_pA, kx_pV, kx_s1, kx_s2, kx_sl, kx_pre, kx_c2, kx_pl, kx_cmp, kx_oF, kx_eqN, kx_nil, kx_c1, kx_ft, kx_aI, kx_aL, kx_aR, kx_ln, Nat.reduceAdd, Option.toList, List.cons_append, List.nil_append, cf7_5, cf7_6, cf7_0, cf1_2, cf9_7, cf7_1, cf7_2, cf7_3]
              repeat (simp only [sW_71, sW_76, sW_77, sW_p71, sW_p76, sW_p77, nI_1, t1, t2, t3, t4, t5, pk_us, pk_un, ne_eq, Nat.reduceEqDiff, not_false_eq_true, ks_eq, ks_ss, hqc, hqw, e1, e2, e3, e5, e6, e7, e8, e9, c1, c2]; try dsimp only [kx_wp, kx_step, kx_lI, kx_lL, kx_lA, kx_gl, kx_pI, kx_pL, kx_pR, kx_pA, kx_pV, kx_s1, kx_s2, kx_sl, kx_pre, kx_c2, kx_pl, kx_cmp, kx_oF, kx_eqN, kx_nil, kx_c1, kx_ft, kx_aI, kx_aL, kx_aR, kx_ln, Nat.reduceAdd, Option.toList, List.cons_append, List.nil_append, cf7_5, cf7_6, cf7_0, cf1_2, cf9_7, cf7_1, cf7_2, cf7_3])
              repeat' apply And.intro
              all_goals try (first | with_reducible assumption | (with_reducible refine ck_nzI ?_; simp; done) | (with_reducible refine ck_nzL ?_; simp; done) | (with_reducible refine vp_in_nI ?_ ?_ <;> first | omega | decide) | (with_reducible refine Nat.le_of_ble_eq_true ?_; rfl) | omega | exact Or.inl trivial | exact Or.inr trivial | exact Or.inl rfl | exact Or.inr rfl)
              refine hC.1 63 _ _ _ _ _ _ _ 1 _ _ _ _ _ _ _ _ _ _ _ _ lX7_63 (ct_X1_farFrom l G (r := fun _ => none) (hqc _ _ _)) ⟨by decide, rfl⟩ (hqc _ _ _) rfl rfl (Nat.le_of_ble_eq_true rfl) (by decide) (by decide) (by omega) (by omega) dX7_listen_76 ?_
              refine hB bX7_listen_79 _ _ _ _ _ _ _ kX7_listen_79 ?_
              dsimp only [bX7_listen_79, kx_wp, kx_step, kx_lI, kx_lL, kx_lA, kx_gl, kx_pI, kx_pL, kx_pR, kx_pA, kx_pV, kx_s1, kx_s2, kx_sl, kx_pre, kx_c2, kx_pl, kx_cmp, kx_oF, kx_eqN, kx_nil, kx_c1, kx_ft, kx_aI, kx_aL, kx_aR, kx_ln, Nat.reduceAdd, Option.toList, List.cons_append, List.nil_append, cf7_5, cf7_6, cf7_0, cf1_2, cf9_7, cf7_1, cf7_2, cf7_3]
              repeat (simp only [sW_71, sW_76, sW_77, sW_p71, sW_p76, sW_p77, nI_1, t1, t2, t3, t4, t5, pk_us, pk_un, ne_eq, Nat.reduceEqDiff, not_false_eq_true, ks_eq, ks_ss, hqc, hqw, e1, e2, e3, e5, e6, e7, e8, e9, c1, c2]; try dsimp only [kx_wp, kx_step, kx_lI, kx_lL, kx_lA, kx_gl, kx_pI, kx_pL, kx_pR, kx_pA, kx_pV, kx_s1, kx_s2, kx_sl, kx_pre, kx_c2, kx_pl, kx_cmp, kx_oF, kx_eqN, kx_nil, kx_c1, kx_ft, kx_aI, kx_aL, kx_aR, kx_ln, Nat.reduceAdd, Option.toList, List.cons_append, List.nil_append, cf7_5, cf7_6, cf7_0, cf1_2, cf9_7, cf7_1, cf7_2, cf7_3])
              repeat' apply And.intro
              all_goals try (first | with_reducible assumption | (with_reducible refine ck_nzI ?_; simp; done) | (with_reducible refine ck_nzL ?_; simp; done) | (with_reducible refine vp_in_nI ?_ ?_ <;> first | omega | decide) | (with_reducible refine Nat.le_of_ble_eq_true ?_; rfl) | omega | exact Or.inl trivial | exact Or.inr trivial | exact Or.inl rfl | exact Or.inr rfl)
              · intro zc87
                with_reducible first | have ze87 := Int32.not_le.mpr zc87 | have ze87 := zc87
                refine hB bX7_listen_141 _ _ _ _ _ _ _ kX7_listen_141 ?_
                dsimp only [bX7_listen_141, kx_wp, kx_step, kx_lI, kx_lL, kx_lA, kx_gl, kx_pI, kx_pL, kx_pR, kx_pA, kx_pV, kx_s1, kx_s2, kx_sl, kx_pre, kx_c2, kx_pl, kx_cmp, kx_oF, kx_eqN, kx_nil, kx_c1, kx_ft, kx_aI, kx_aL, kx_aR, kx_ln, Nat.reduceAdd, Option.toList, List.cons_append, List.nil_append, cf7_5, cf7_6, cf7_0, cf1_2, cf9_7, cf7_1, cf7_2, cf7_3]
                repeat (simp only [sW_71, sW_76, sW_77, sW_p71, sW_p76, sW_p77, nI_1, t1, t2, t3, t4, t5, pk_us, pk_un, ne_eq, Nat.reduceEqDiff, not_false_eq_true, ks_eq, ks_ss, hqc, hqw, e1, e2, e3, e5, e6, e7, e8, e9, c1, c2]; try dsimp only [kx_wp, kx_step, kx_lI, kx_lL, kx_lA, kx_gl, kx_pI, kx_pL, kx_pR, kx_pA, kx_pV, kx_s1, kx_s2, kx_sl, kx_pre, kx_c2, kx_pl, kx_cmp, kx_oF, kx_eqN, kx_nil, kx_c1, kx_ft, kx_aI, kx_aL, kx_aR, kx_ln, Nat.reduceAdd, Option.toList, List.cons_append, List.nil_append, cf7_5, cf7_6, cf7_0, cf1_2, cf9_7, cf7_1, cf7_2, cf7_3])
                repeat' apply And.intro
                all_goals try (first | with_reducible assumption | (with_reducible refine ck_nzI ?_; simp; done) | (with_reducible refine ck_nzL ?_; simp; done) | (with_reducible refine vp_in_nI ?_ ?_ <;> first | omega | decide) | (with_reducible refine Nat.le_of_ble_eq_true ?_; rfl) | omega | exact Or.inl trivial | exact Or.inr trivial | exact Or.inl rfl | exact Or.inr rfl)
                simp only [if_neg hfr] at zi
                exact zi _ _ _ _ none
              · intro zc87
                first | exact absurd rfl zc87 | exact absurd zc87 (by decide) | exact absurd (by decide) zc87 | (exfalso; first | exact absurd ((nI_leI (a := min sd 200) (b := k) (by omega) (by omega)).mpr (by omega)) zc25 | exact absurd ((nI_leI (a := min sd 200) (b := k) (by omega) (by omega)).mp zc25) (by omega) | exact absurd ((nI_ltI (a := ci) (b := 0) (by omega) (by omega)).mp zc47) (by omega) | exact absurd ((nI_leI (a := 8) (b := ci) (by omega) (by omega)).mp zc54) (by omega) | exact zc87 (Int32.not_le.mp hfr) | exact absurd hfr (Int32.not_le.mpr zc87)) | (exfalso; simp_all; done)
  refine hB bX7_listen_0 _ _ _ _ _ _ _ kX7_listen_0 ?_
  dsimp only [bX7_listen_0, kx_wp, kx_step, kx_lI, kx_lL, kx_lA, kx_gl, kx_pI, kx_pL, kx_pR, kx_pA, kx_pV, kx_s1, kx_s2, kx_sl, kx_pre, kx_c2, kx_pl, kx_cmp, kx_oF, kx_eqN, kx_nil, kx_c1, kx_ft, kx_aI, kx_aL, kx_aR, kx_ln, Nat.reduceAdd, Option.toList, List.cons_append, List.nil_append, cf7_5, cf7_6, cf7_0, cf1_2, cf9_7, cf7_1, cf7_2, cf7_3]
  repeat (simp only [sW_71, sW_76, sW_77, sW_p71, sW_p76, sW_p77, nI_1, t1, t2, t3, t4, t5, pk_us, pk_un, ne_eq, Nat.reduceEqDiff, not_false_eq_true, ks_eq, ks_ss]; try dsimp only [kx_wp, kx_step, kx_lI, kx_lL, kx_lA, kx_gl, kx_pI, kx_pL, kx_pR, kx_pA, kx_pV, kx_s1, kx_s2, kx_sl, kx_pre, kx_c2, kx_pl, kx_cmp, kx_oF, kx_eqN, kx_nil, kx_c1, kx_ft, kx_aI, kx_aL, kx_aR, kx_ln, Nat.reduceAdd, Option.toList, List.cons_append, List.nil_append, cf7_5, cf7_6, cf7_0, cf1_2, cf9_7, cf7_1, cf7_2, cf7_3])
  repeat' apply And.intro
  all_goals try (first | with_reducible assumption | (with_reducible refine ck_nzI ?_; simp; done) | (with_reducible refine ck_nzL ?_; simp; done) | (with_reducible refine vp_in_nI ?_ ?_ <;> first | omega | decide) | (with_reducible refine Nat.le_of_ble_eq_true ?_; rfl) | omega | exact Or.inl trivial | exact Or.inr trivial | exact Or.inl rfl | exact Or.inr rfl)
  refine hC.2.1 57 _ _ _ _ _ _ _ _ _ _ _ _ _ _ _ _ _ lX7_57 (ct_J7_fill_53178 l G sW_76 (by decide) (by decide)) rfl rfl (Nat.le_of_ble_eq_true rfl) (by decide) (by decide) (by omega) (by omega) dX7_listen_5 ?_
  rw [sW_p76]
  refine hB bX7_listen_8 _ _ _ _ _ _ _ kX7_listen_8 ?_
  dsimp only [bX7_listen_8, kx_wp, kx_step, kx_lI, kx_lL, kx_lA, kx_gl, kx_pI, kx_pL, kx_pR, kx_pA, kx_pV, kx_s1, kx_s2, kx_sl, kx_pre, kx_c2, kx_pl, kx_cmp, kx_oF, kx_eqN, kx_nil, kx_c1, kx_ft, kx_aI, kx_aL, kx_aR, kx_ln, Nat.reduceAdd, Option.toList, List.cons_append, List.nil_append, cf7_5, cf7_6, cf7_0, cf1_2, cf9_7, cf7_1, cf7_2, cf7_3]
  repeat (simp only [sW_71, sW_76, sW_77, sW_p71, sW_p76, sW_p77, nI_1, t1, t2, t3, t4, t5, pk_us, pk_un, ne_eq, Nat.reduceEqDiff, not_false_eq_true, ks_eq, ks_ss]; try dsimp only [kx_wp, kx_step, kx_lI, kx_lL, kx_lA, kx_gl, kx_pI, kx_pL, kx_pR, kx_pA, kx_pV, kx_s1, kx_s2, kx_sl, kx_pre, kx_c2, kx_pl, kx_cmp, kx_oF, kx_eqN, kx_nil, kx_c1, kx_ft, kx_aI, kx_aL, kx_aR, kx_ln, Nat.reduceAdd, Option.toList, List.cons_append, List.nil_append, cf7_5, cf7_6, cf7_0, cf1_2, cf9_7, cf7_1, cf7_2, cf7_3])
  repeat' apply And.intro
  all_goals try (first | with_reducible assumption | (with_reducible refine ck_nzI ?_; simp; done) | (with_reducible refine ck_nzL ?_; simp; done) | (with_reducible refine vp_in_nI ?_ ?_ <;> first | omega | decide) | (with_reducible refine Nat.le_of_ble_eq_true ?_; rfl) | omega | exact Or.inl trivial | exact Or.inr trivial | exact Or.inl rfl | exact Or.inr rfl)
  refine hC.2.1 57 _ _ _ _ _ _ _ _ _ _ _ _ _ _ _ _ _ lX7_57 (ct_J7_fill_53178 l G sW_77 (by decide) (by decide)) rfl rfl (Nat.le_of_ble_eq_true rfl) (by decide) (by decide) (by omega) (by omega) dX7_listen_13 ?_
  rw [sW_p77]
  refine hB bX7_listen_16 _ _ _ _ _ _ _ kX7_listen_16 ?_
  dsimp only [bX7_listen_16, kx_wp, kx_step, kx_lI, kx_lL, kx_lA, kx_gl, kx_pI, kx_pL, kx_pR, kx_pA, kx_pV, kx_s1, kx_s2, kx_sl, kx_pre, kx_c2, kx_pl, kx_cmp, kx_oF, kx_eqN, kx_nil, kx_c1, kx_ft, kx_aI, kx_aL, kx_aR, kx_ln, Nat.reduceAdd, Option.toList, List.cons_append, List.nil_append, cf7_5, cf7_6, cf7_0, cf1_2, cf9_7, cf7_1, cf7_2, cf7_3]
  repeat (simp only [sW_71, sW_76, sW_77, sW_p71, sW_p76, sW_p77, nI_1, t1, t2, t3, t4, t5, pk_us, pk_un, ne_eq, Nat.reduceEqDiff, not_false_eq_true, ks_eq, ks_ss]; try dsimp only [kx_wp, kx_step, kx_lI, kx_lL, kx_lA, kx_gl, kx_pI, kx_pL, kx_pR, kx_pA, kx_pV, kx_s1, kx_s2, kx_sl, kx_pre, kx_c2, kx_pl, kx_cmp, kx_oF, kx_eqN, kx_nil, kx_c1, kx_ft, kx_aI, kx_aL, kx_aR, kx_ln, Nat.reduceAdd, Option.toList, List.cons_append, List.nil_append, cf7_5, cf7_6, cf7_0, cf1_2, cf9_7, cf7_1, cf7_2, cf7_3])
  repeat' apply And.intro
  all_goals try (first | with_reducible assumption | (with_reducible refine ck_nzI ?_; simp; done) | (with_reducible refine ck_nzL ?_; simp; done) | (with_reducible refine vp_in_nI ?_ ?_ <;> first | omega | decide) | (with_reducible refine Nat.le_of_ble_eq_true ?_; rfl) | omega | exact Or.inl trivial | exact Or.inr trivial | exact Or.inl rfl | exact Or.inr rfl)
  exact loop19 _ 0 none none none none none (Nat.zero_add _)


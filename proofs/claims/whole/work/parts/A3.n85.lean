def cp_wsl (W0 : Nat → Int32) (run : Nat → Nat) (s : Nat) : Nat → (Nat → Int32)
  | 0 => W0
  | c + 1 => if s / 2 ^ c % 2 = 1 then upd (cp_wsl W0 run s c) (ck_ct s c) (nI (run c - 1)) else cp_wsl W0 run s c
def cp_stl (lf : Nat → Nat) (days s : Nat) : Nat → Option Nat
  | 0 => some 0
  | c + 1 => if s / 2 ^ c % 2 = 1 then cp_js (cp_stl lf days s c) (lf c) days (ck_ct s c) else cp_stl lf days s c
theorem cp_stl_lt {lf : Nat → Nat} {days s : Nat} (hd : days ≤ 10) : ∀ c v, cp_stl lf days s c = some v → v < 16 ^ (ck_ct s c) := by
  intro c
  induction c with
  | zero => intro v h; cases h; exact Nat.one_pos
  | succ c ih =>
    intro v h
    rw [cp_stl] at h
    rw [ck_ct]
    split at h
    · rename_i hb
      rw [hb]
      unfold cp_js at h
      split at h
      · cases h
      · split at h
        · cases h
        · rename_i v2 h2
          cases h
          have := ih _ h2
          have h4 := Nat.mul_le_mul_right (16 ^ (ck_ct s c)) (show min ((lf c - 1) / 1440) days ≤ 15 by omega)
          rw [Nat.pow_succ]
          omega
    · rename_i hb
      rw [show s / 2 ^ c % 2 = 0 by omega]
      exact ih v h
def cp_F0 (F : Nat → Int32) (days many se : Nat) : Nat → Int32 := upd (upd (upd (upd (upd F 3 (nI days)) 4 (nI many)) 2 0) 5 0) 7 (nI (se + 1))
def cp_Fc (F : Nat → Int32) (days many se : Nat) (lf : Nat → Nat) (s c : Nat) : Nat → Int32 := upd (upd (cp_F0 F days many se) 5 (cp_oi (cp_stl lf days s c))) 2 (nI (ck_ct s c))
theorem cp_Fc_0 (F : Nat → Int32) (days many se : Nat) (lf : Nat → Nat) (s : Nat) : cp_Fc F days many se lf s 0 = cp_F0 F days many se := by
  funext j
  show upd (upd (cp_F0 F days many se) 5 0) 2 0 j = _
  unfold upd
  split
  · rename_i e; subst e; rfl
  · split
    · rename_i e; subst e; rfl
    · rfl
theorem cp_Fc_s {F : Nat → Int32} {days many se : Nat} {lf : Nat → Nat} {s c : Nat} (h : s / 2 ^ c % 2 = 1) : upd (upd (cp_Fc F days many se lf s c) 5 (cp_oi (cp_js (cp_stl lf days s c) (lf c) days (ck_ct s c)))) 2 (nI (ck_ct s c + 1)) = cp_Fc F days many se lf s (c + 1) := by
  unfold cp_Fc
  rw [cp_uu5, cp_stl, if_pos h, ck_ct, h]
theorem cp_Fc_n {F : Nat → Int32} {days many se : Nat} {lf : Nat → Nat} {s c : Nat} (h : ¬ s / 2 ^ c % 2 = 1) : cp_Fc F days many se lf s c = cp_Fc F days many se lf s (c + 1) := by
  unfold cp_Fc
  rw [cp_stl, if_neg h, ck_ct, show s / 2 ^ c % 2 = 0 by omega, Nat.add_zero]
theorem cp_bt0 : ∀ s, s < 256 → ∀ cl, cl ≤ 8 → s < 2 ^ cl → ∀ c, c < 8 → cl ≤ c → s / 2 ^ c % 2 = 0 := by
  intro s _ cl _ h c _ hc
  have : 2 ^ cl ≤ 2 ^ c := Nat.pow_le_pow_right (by decide) hc
  rw [Nat.div_eq_of_lt (by omega)]
def bX4_begin_0 : List kx_O := [(.aload_n 0, 0, 0, 0, .null), (.iload_n 3, 3, 0, 0, .null), (.putfield 22, 4, 3, 0, .null), (.aload_n 0, 0, 0, 0, .null), (.iload 4, 4, 0, 0, .null), (.putfield 25, 4, 4, 0, .null), (.aload_n 0, 0, 0, 0, .null), (.iconst 0, 0, 0, 0, .int 0), (.putfield 18, 4, 2, 0, .null), (.aload_n 0, 0, 0, 0, .null), (.iconst 0, 0, 0, 0, .int 0), (.putfield 28, 4, 5, 0, .null), (.aload_n 0, 0, 0, 0, .null), (.dup, 0, 0, 0, .null), (.getfield 34, 4, 7, 0, .null), (.iconst 1, 0, 0, 0, .int 1), (.iadd, 0, 0, 0, .null), (.putfield 34, 4, 7, 0, .null), (.aload_n 0, 0, 0, 0, .null), (.getfield 31, 4, 6, 0, .null), (.ifnonnull 11, 46, 0, 0, .null)]
theorem kX4_begin_0 : kx_oks kxL_X4 false cX4_begin 0 bX4_begin_0 = true := by decide +kernel
def bX4_begin_38 : List kx_O := [(.aload_n 0, 0, 0, 0, .null), (.ldc 37, 0, 0, 0, .int (39973)), (.newarray .int, 0, 0, 0, .null), (.putfield 31, 4, 6, 3, .null)]
theorem kX4_begin_38 : kx_oks kxL_X4 false cX4_begin 38 bX4_begin_38 = true := by decide +kernel
def bX4_begin_46 : List kx_O := [(.iconst 0, 0, 0, 0, .int 0), (.istore 5, 5, 0, 0, .null)]
theorem kX4_begin_46 : kx_oks kxL_X4 false cX4_begin 46 bX4_begin_46 = true := by decide +kernel
def bX4_begin_49 : List kx_O := [(.iload 5, 5, 0, 0, .null), (.aload_n 1, 1, 0, 0, .null), (.arraylength, 0, 0, 0, .null), (.if_icmp .ge 48, 101, 0, 0, .null)]
theorem kX4_begin_49 : kx_oks kxL_X4 false cX4_begin 49 bX4_begin_49 = true := by decide +kernel
def bX4_begin_56 : List kx_O := [(.aload_n 1, 1, 0, 0, .null), (.iload 5, 5, 0, 0, .null), (.aaload, 0, 0, 0, .null), (.ifnull 35, 95, 0, 0, .null)]
theorem kX4_begin_56 : kx_oks kxL_X4 false cX4_begin 56 bX4_begin_56 = true := by decide +kernel
def bX4_begin_63 : List kx_O := [(.iload_n 2, 2, 0, 0, .null), (.iload 5, 5, 0, 0, .null), (.ishr, 0, 0, 0, .null), (.iconst 1, 0, 0, 0, .int 1), (.iand, 0, 0, 0, .null), (.iconst 1, 0, 0, 0, .int 1), (.if_icmp .ne 25, 95, 0, 0, .null)]
theorem kX4_begin_63 : kx_oks kxL_X4 false cX4_begin 63 bX4_begin_63 = true := by decide +kernel
def bX4_begin_73 : List kx_O := [(.aload_n 0, 0, 0, 0, .null), (.getfield 18, 4, 2, 0, .null), (.aload_n 0, 0, 0, 0, .null), (.getfield 11, 4, 0, 0, .null), (.arraylength, 0, 0, 0, .null), (.if_icmp .ge 13, 95, 0, 0, .null)]
theorem kX4_begin_73 : kx_oks kxL_X4 false cX4_begin 73 bX4_begin_73 = true := by decide +kernel
def bX4_begin_85 : List kx_O := [(.aload_n 0, 0, 0, 0, .null), (.iload 5, 5, 0, 0, .null), (.aload_n 1, 1, 0, 0, .null), (.iload 5, 5, 0, 0, .null), (.aaload, 0, 0, 0, .null)]
theorem kX4_begin_85 : kx_oks kxL_X4 false cX4_begin 85 bX4_begin_85 = true := by decide +kernel
def bX4_begin_95 : List kx_O := [(.iinc 5 1, 5, 0, 0, .int 1), (.goto (-49), 49, 0, 0, .null)]
theorem kX4_begin_95 : kx_oks kxL_X4 false cX4_begin 95 bX4_begin_95 = true := by decide +kernel
def bX4_begin_101 : List kx_O := [(.return_, 0, 0, 0, .null)]
theorem kX4_begin_101 : kx_oks kxL_X4 false cX4_begin 101 bX4_begin_101 = true := by decide +kernel
theorem dX4_begin_92 : decode cX4_begin 92 = .ok (.invokevirtual 38, 3) := by decide +kernel
set_option maxRecDepth 100000 in
set_option maxHeartbeats 4000000 in
theorem ct_X4_begin_r (l : Launch) (G : kx_G) {P : kx_P} {sz : Nat} {cl : Nat} (hcl : cl ≤ 8) {cn wn : Nat → Nat} {DD : Nat → Int64} {HH : Nat → Value} {CC VV : Nat → Nat → Int32} (hCS : cx_CS P cl cn wn DD HH CC VV) {lf run : Nat → Nat} (hlr : ∀ i, i < cl → CC i 6 = nI (lf i) ∧ lf i ≤ 44640 ∧ VV i 0 = nI (run i) ∧ 1 ≤ run i ∧ run i ≤ 31) {F NU WS : Nat → Int32} {s days many se : Nat} (hs : s < 2 ^ cl) (hs4 : ck_pc s ≤ 4) (hd : 1 ≤ days ∧ days ≤ 10) (h7 : F 7 = nI se) (hse : se ≤ 1000) {nt : Nat}  : kx_M l G sX4_begin 5 0 0 [.ref 81, .ref 69, .int (nI s), .int (nI days), .int (nI many)] (jW P (.ref nt) F NU WS) sz none (jW P (.ref nt) (cp_Fc F days many se lf s 8) (ck_pcl NU s 8) (cp_wsl WS run s 8)) sz := by
  obtain ⟨h69, hcs⟩ := hCS
  have t5 : ∀ nv F NU WS, jW P nv F NU WS 69 = kR 8 (fun i => if i < cl then some (cn i) else none) := fun _ _ _ _ => (jW_o (by decide) (by decide) (by decide)).trans h69
  have s256 : s < 256 := Nat.lt_of_lt_of_le hs (Nat.le_trans (Nat.pow_le_pow_right (n := 2) (by decide) hcl) (by decide))
  have hF3 : ∀ c, (cp_Fc F days many se lf s c) 3 = nI days := fun _ => rfl
  have hF2 : ∀ c, (cp_Fc F days many se lf s c) 2 = nI (ck_ct s c) := fun _ => rfl
  refine kx_mk kx_tab kxLok_X4 (ini := false) [some (.ref 81), some (.ref 69), some (.int (nI s)), some (.int (nI days)), some (.int (nI many)), none] ⟨by decide, rfl, by decide, by decide⟩ (rfl) rfl rfl (fun g hB hC => ?_)
  have hnull : ∀ (n9 c : Nat), c + n9 = 8 → cl ≤ c → g 49 [some (.ref 81), some (.ref 69), some (.int (nI s)), some (.int (nI days)), some (.int (nI many)), some (.int (nI (c)))] [] (jW P (.ref nt) (cp_Fc F days many se lf s c) (ck_pcl NU s c) (cp_wsl WS run s c)) sz 0 0 := by
    intro n9
    induction n9 with
    | zero =>
      intro c hc hc2
      obtain rfl : c = 8 := by omega
      refine hB bX4_begin_49 _ _ _ _ _ _ _ kX4_begin_49 ?_
      dsimp only [bX4_begin_49, kx_wp, kx_step, kx_lI, kx_lL, kx_lA, kx_gl, kx_pI, kx_pL, kx_pR, kx_pA, kx_pV, kx_s1, kx_s2, kx_sl, kx_pre, kx_c2, kx_pl, kx_cmp, kx_oF, kx_eqN, kx_nil, kx_c1, kx_ft, kx_aI, kx_aL, kx_aR, kx_ln, Nat.reduceAdd, Option.toList, List.cons_append, List.nil_append, cf4_3, cf4_4, cf4_2, cf4_5, cf4_7, cf4_6, cf4_0]
      repeat (simp only [jW_81, jW_82, jW_83, jW_p81, jW_p82, jW_p83, h7, nI_1, pk_us, pk_un, ne_eq, Nat.reduceEqDiff, not_false_eq_true, t5, cp4_3, cp4_4, cp4_2, cp4_5, cp4_7, cp4_6, ks_eq, ks_ss]; try dsimp only [kx_wp, kx_step, kx_lI, kx_lL, kx_lA, kx_gl, kx_pI, kx_pL, kx_pR, kx_pA, kx_pV, kx_s1, kx_s2, kx_sl, kx_pre, kx_c2, kx_pl, kx_cmp, kx_oF, kx_eqN, kx_nil, kx_c1, kx_ft, kx_aI, kx_aL, kx_aR, kx_ln, Nat.reduceAdd, Option.toList, List.cons_append, List.nil_append, cf4_3, cf4_4, cf4_2, cf4_5, cf4_7, cf4_6, cf4_0])
      repeat' apply And.intro
      all_goals try (first | with_reducible assumption | (with_reducible refine ck_nzI ?_; simp; done) | (with_reducible refine ck_nzL ?_; simp; done) | (with_reducible refine vp_in_nI ?_ ?_ <;> first | omega | decide) | (with_reducible refine Nat.le_of_ble_eq_true ?_; rfl) | omega | exact Or.inl trivial | exact Or.inr trivial | exact Or.inl rfl | exact Or.inr rfl | exact vp_in_nI (by omega) (by decide) | exact Nat.le_of_ble_eq_true rfl | (with_reducible refine ck_nzI ?_; decide) | exact (by decide : ¬ (39973 : Int32) < 0))
      · intro zc53
        with_reducible first | have ze53 := Int32.not_lt.mpr zc53 | have ze53 := zc53
        refine hB bX4_begin_101 _ _ _ _ _ _ _ kX4_begin_101 ?_
        dsimp only [bX4_begin_101, kx_wp, kx_step, kx_lI, kx_lL, kx_lA, kx_gl, kx_pI, kx_pL, kx_pR, kx_pA, kx_pV, kx_s1, kx_s2, kx_sl, kx_pre, kx_c2, kx_pl, kx_cmp, kx_oF, kx_eqN, kx_nil, kx_c1, kx_ft, kx_aI, kx_aL, kx_aR, kx_ln, Nat.reduceAdd, Option.toList, List.cons_append, List.nil_append, cf4_3, cf4_4, cf4_2, cf4_5, cf4_7, cf4_6, cf4_0]
        repeat (simp only [jW_81, jW_82, jW_83, jW_p81, jW_p82, jW_p83, h7, nI_1, pk_us, pk_un, ne_eq, Nat.reduceEqDiff, not_false_eq_true, t5, cp4_3, cp4_4, cp4_2, cp4_5, cp4_7, cp4_6, ks_eq, ks_ss]; try dsimp only [kx_wp, kx_step, kx_lI, kx_lL, kx_lA, kx_gl, kx_pI, kx_pL, kx_pR, kx_pA, kx_pV, kx_s1, kx_s2, kx_sl, kx_pre, kx_c2, kx_pl, kx_cmp, kx_oF, kx_eqN, kx_nil, kx_c1, kx_ft, kx_aI, kx_aL, kx_aR, kx_ln, Nat.reduceAdd, Option.toList, List.cons_append, List.nil_append, cf4_3, cf4_4, cf4_2, cf4_5, cf4_7, cf4_6, cf4_0])
        all_goals (repeat' apply And.intro)
        all_goals ((try clear hB hC); first | exact True.intro | rfl)
      · intro zc53
        first | exact absurd rfl zc53 | exact absurd zc53 (by decide) | exact absurd (by decide) zc53 | (exfalso; first | exact absurd ((nI_leI (a := 8) (b := 8) (by omega) (by omega)).mpr (by omega)) zc53 | exact absurd ((nI_leI (a := 8) (b := c) (by omega) (by omega)).mp zc53) (by omega) | exact zc70 hbt | exact hbt zc70 | exact hbt (Decidable.not_not.mp zc70) | exact absurd ((nI_leI (a := 4) (b := ck_ct s c) (by omega) (by omega)).mp zc82) (by omega)) | (exfalso; simp_all; done)
    | succ n9 ih =>
      intro c hc hc2
      have e8 : (if c < cl then some (cn c) else none) = none := if_neg (by omega)
      have e9 : va_rf none = .null := rfl
      have c1 : (nI c).toNatClampNeg = c := nI_clamp (by omega)
      have hb0 : ¬ s / 2 ^ c % 2 = 1 := by rw [cp_bt0 s s256 cl hcl hs c (by omega) hc2]; decide
      have zi := ih (c + 1) (by omega) (by omega)
      rw [← cp_Fc_n hb0, ck_pcl, if_neg hb0, cp_wsl, if_neg hb0] at zi
      refine hB bX4_begin_49 _ _ _ _ _ _ _ kX4_begin_49 ?_
      dsimp only [bX4_begin_49, kx_wp, kx_step, kx_lI, kx_lL, kx_lA, kx_gl, kx_pI, kx_pL, kx_pR, kx_pA, kx_pV, kx_s1, kx_s2, kx_sl, kx_pre, kx_c2, kx_pl, kx_cmp, kx_oF, kx_eqN, kx_nil, kx_c1, kx_ft, kx_aI, kx_aL, kx_aR, kx_ln, Nat.reduceAdd, Option.toList, List.cons_append, List.nil_append, cf4_3, cf4_4, cf4_2, cf4_5, cf4_7, cf4_6, cf4_0]
      repeat (simp only [jW_81, jW_82, jW_83, jW_p81, jW_p82, jW_p83, h7, nI_1, pk_us, pk_un, ne_eq, Nat.reduceEqDiff, not_false_eq_true, t5, cp4_3, cp4_4, cp4_2, cp4_5, cp4_7, cp4_6, ks_eq, ks_ss, e8, e9, c1]; try dsimp only [kx_wp, kx_step, kx_lI, kx_lL, kx_lA, kx_gl, kx_pI, kx_pL, kx_pR, kx_pA, kx_pV, kx_s1, kx_s2, kx_sl, kx_pre, kx_c2, kx_pl, kx_cmp, kx_oF, kx_eqN, kx_nil, kx_c1, kx_ft, kx_aI, kx_aL, kx_aR, kx_ln, Nat.reduceAdd, Option.toList, List.cons_append, List.nil_append, cf4_3, cf4_4, cf4_2, cf4_5, cf4_7, cf4_6, cf4_0])
      repeat' apply And.intro
      all_goals try (first | with_reducible assumption | (with_reducible refine ck_nzI ?_; simp; done) | (with_reducible refine ck_nzL ?_; simp; done) | (with_reducible refine vp_in_nI ?_ ?_ <;> first | omega | decide) | (with_reducible refine Nat.le_of_ble_eq_true ?_; rfl) | omega | exact Or.inl trivial | exact Or.inr trivial | exact Or.inl rfl | exact Or.inr rfl | exact vp_in_nI (by omega) (by decide) | exact Nat.le_of_ble_eq_true rfl | (with_reducible refine ck_nzI ?_; decide) | exact (by decide : ¬ (39973 : Int32) < 0))
      · intro zc53
        first | exact absurd rfl zc53 | exact absurd zc53 (by decide) | exact absurd (by decide) zc53 | (exfalso; first | exact absurd ((nI_leI (a := 8) (b := 8) (by omega) (by omega)).mpr (by omega)) zc53 | exact absurd ((nI_leI (a := 8) (b := c) (by omega) (by omega)).mp zc53) (by omega) | exact zc70 hbt | exact hbt zc70 | exact hbt (Decidable.not_not.mp zc70) | exact absurd ((nI_leI (a := 4) (b := ck_ct s c) (by omega) (by omega)).mp zc82) (by omega)) | (exfalso; simp_all; done)
      · intro zc53
        with_reducible first | have ze53 := Int32.not_le.mp zc53 | have ze53 := zc53
        refine hB bX4_begin_56 _ _ _ _ _ _ _ kX4_begin_56 ?_
        dsimp only [bX4_begin_56, kx_wp, kx_step, kx_lI, kx_lL, kx_lA, kx_gl, kx_pI, kx_pL, kx_pR, kx_pA, kx_pV, kx_s1, kx_s2, kx_sl, kx_pre, kx_c2, kx_pl, kx_cmp, kx_oF, kx_eqN, kx_nil, kx_c1, kx_ft, kx_aI, kx_aL, kx_aR, kx_ln, Nat.reduceAdd, Option.toList, List.cons_append, List.nil_append, cf4_3, cf4_4, cf4_2, cf4_5, cf4_7, cf4_6, cf4_0]
        repeat (simp only [jW_81, jW_82, jW_83, jW_p81, jW_p82, jW_p83, h7, nI_1, pk_us, pk_un, ne_eq, Nat.reduceEqDiff, not_false_eq_true, t5, cp4_3, cp4_4, cp4_2, cp4_5, cp4_7, cp4_6, ks_eq, ks_ss, e8, e9, c1]; try dsimp only [kx_wp, kx_step, kx_lI, kx_lL, kx_lA, kx_gl, kx_pI, kx_pL, kx_pR, kx_pA, kx_pV, kx_s1, kx_s2, kx_sl, kx_pre, kx_c2, kx_pl, kx_cmp, kx_oF, kx_eqN, kx_nil, kx_c1, kx_ft, kx_aI, kx_aL, kx_aR, kx_ln, Nat.reduceAdd, Option.toList, List.cons_append, List.nil_append, cf4_3, cf4_4, cf4_2, cf4_5, cf4_7, cf4_6, cf4_0])
        repeat' apply And.intro
        all_goals try (first | with_reducible assumption | (with_reducible refine ck_nzI ?_; simp; done) | (with_reducible refine ck_nzL ?_; simp; done) | (with_reducible refine vp_in_nI ?_ ?_ <;> first | omega | decide) | (with_reducible refine Nat.le_of_ble_eq_true ?_; rfl) | omega | exact Or.inl trivial | exact Or.inr trivial | exact Or.inl rfl | exact Or.inr rfl | exact vp_in_nI (by omega) (by decide) | exact Nat.le_of_ble_eq_true rfl | (with_reducible refine ck_nzI ?_; decide) | exact (by decide : ¬ (39973 : Int32) < 0))
        refine hB bX4_begin_95 _ _ _ _ _ _ _ kX4_begin_95 ?_
        dsimp only [bX4_begin_95, kx_wp, kx_step, kx_lI, kx_lL, kx_lA, kx_gl, kx_pI, kx_pL, kx_pR, kx_pA, kx_pV, kx_s1, kx_s2, kx_sl, kx_pre, kx_c2, kx_pl, kx_cmp, kx_oF, kx_eqN, kx_nil, kx_c1, kx_ft, kx_aI, kx_aL, kx_aR, kx_ln, Nat.reduceAdd, Option.toList, List.cons_append, List.nil_append, cf4_3, cf4_4, cf4_2, cf4_5, cf4_7, cf4_6, cf4_0]
        repeat (simp only [jW_81, jW_82, jW_83, jW_p81, jW_p82, jW_p83, h7, nI_1, pk_us, pk_un, ne_eq, Nat.reduceEqDiff, not_false_eq_true, t5, cp4_3, cp4_4, cp4_2, cp4_5, cp4_7, cp4_6, ks_eq, ks_ss, e8, e9, c1]; try dsimp only [kx_wp, kx_step, kx_lI, kx_lL, kx_lA, kx_gl, kx_pI, kx_pL, kx_pR, kx_pA, kx_pV, kx_s1, kx_s2, kx_sl, kx_pre, kx_c2, kx_pl, kx_cmp, kx_oF, kx_eqN, kx_nil, kx_c1, kx_ft, kx_aI, kx_aL, kx_aR, kx_ln, Nat.reduceAdd, Option.toList, List.cons_append, List.nil_append, cf4_3, cf4_4, cf4_2, cf4_5, cf4_7, cf4_6, cf4_0])
        repeat' apply And.intro
        all_goals try (first | with_reducible assumption | (with_reducible refine ck_nzI ?_; simp; done) | (with_reducible refine ck_nzL ?_; simp; done) | (with_reducible refine vp_in_nI ?_ ?_ <;> first | omega | decide) | (with_reducible refine Nat.le_of_ble_eq_true ?_; rfl) | omega | exact Or.inl trivial | exact Or.inr trivial | exact Or.inl rfl | exact Or.inr rfl | exact vp_in_nI (by omega) (by decide) | exact Nat.le_of_ble_eq_true rfl | (with_reducible refine ck_nzI ?_; decide) | exact (by decide : ¬ (39973 : Int32) < 0))
        all_goals exact zi
  have loop49 : ∀ (n9 c : Nat), c + n9 = cl → g 49 [some (.ref 81), some (.ref 69), some (.int (nI s)), some (.int (nI days)), some (.int (nI many)), some (.int (nI (c)))] [] (jW P (.ref nt) (cp_Fc F days many se lf s c) (ck_pcl NU s c) (cp_wsl WS run s c)) sz 0 0 := by
    intro n9
    induction n9 with
    | zero =>
      intro c hc
      exact hnull (8 - c) c (by omega) (by omega)
    | succ n9 ih =>
      intro c hc9
      have hc : c < cl := by omega
      obtain ⟨hc1, hc2, hc3, hc4⟩ := hcs c hc
      obtain ⟨e6, e7, e8, e9, e10⟩ := hlr c hc
      have hc1v := hc1
      have hc2v := hc2
      have f8 : (if c < cl then some (cn c) else none) = some (cn c) := if_pos hc
      have f9 : va_rf (some (cn c)) = .ref (cn c) := rfl
      have c1 : (nI c).toNatClampNeg = c := nI_clamp (by omega)
      have z3 := ck_bt s s256 c (by omega)
      have zi := ih (c + 1) (by omega)
      by_cases hbt : nI (s / 2 ^ c % 2) = 1
      · have hb1 : s / 2 ^ c % 2 = 1 := (nI_eq (b := 1) (by omega) (by omega)).mp hbt
        have hct := ck_ct_lt s s256 c (by omega) hb1
        rw [ck_pcl, if_pos hb1, cp_wsl, if_pos hb1] at zi
        refine hB bX4_begin_49 _ _ _ _ _ _ _ kX4_begin_49 ?_
        dsimp only [bX4_begin_49, kx_wp, kx_step, kx_lI, kx_lL, kx_lA, kx_gl, kx_pI, kx_pL, kx_pR, kx_pA, kx_pV, kx_s1, kx_s2, kx_sl, kx_pre, kx_c2, kx_pl, kx_cmp, kx_oF, kx_eqN, kx_nil, kx_c1, kx_ft, kx_aI, kx_aL, kx_aR, kx_ln, Nat.reduceAdd, Option.toList, List.cons_append, List.nil_append, cf4_3, cf4_4, cf4_2, cf4_5, cf4_7, cf4_6, cf4_0]
        repeat (simp only [jW_81, jW_82, jW_83, jW_p81, jW_p82, jW_p83, h7, nI_1, pk_us, pk_un, ne_eq, Nat.reduceEqDiff, not_false_eq_true, t5, cp4_3, cp4_4, cp4_2, cp4_5, cp4_7, cp4_6, ks_eq, ks_ss, f8, f9, c1, z3, hF2]; try dsimp only [kx_wp, kx_step, kx_lI, kx_lL, kx_lA, kx_gl, kx_pI, kx_pL, kx_pR, kx_pA, kx_pV, kx_s1, kx_s2, kx_sl, kx_pre, kx_c2, kx_pl, kx_cmp, kx_oF, kx_eqN, kx_nil, kx_c1, kx_ft, kx_aI, kx_aL, kx_aR, kx_ln, Nat.reduceAdd, Option.toList, List.cons_append, List.nil_append, cf4_3, cf4_4, cf4_2, cf4_5, cf4_7, cf4_6, cf4_0])
        repeat' apply And.intro
        all_goals try (first | with_reducible assumption | (with_reducible refine ck_nzI ?_; simp; done) | (with_reducible refine ck_nzL ?_; simp; done) | (with_reducible refine vp_in_nI ?_ ?_ <;> first | omega | decide) | (with_reducible refine Nat.le_of_ble_eq_true ?_; rfl) | omega | exact Or.inl trivial | exact Or.inr trivial | exact Or.inl rfl | exact Or.inr rfl | exact vp_in_nI (by omega) (by decide) | exact Nat.le_of_ble_eq_true rfl | (with_reducible refine ck_nzI ?_; decide) | exact (by decide : ¬ (39973 : Int32) < 0))
        · intro zc53
          first | exact absurd rfl zc53 | exact absurd zc53 (by decide) | exact absurd (by decide) zc53 | (exfalso; first | exact absurd ((nI_leI (a := 8) (b := 8) (by omega) (by omega)).mpr (by omega)) zc53 | exact absurd ((nI_leI (a := 8) (b := c) (by omega) (by omega)).mp zc53) (by omega) | exact zc70 hbt | exact hbt zc70 | exact hbt (Decidable.not_not.mp zc70) | exact absurd ((nI_leI (a := 4) (b := ck_ct s c) (by omega) (by omega)).mp zc82) (by omega)) | (exfalso; simp_all; done)
        · intro zc53
          with_reducible first | have ze53 := Int32.not_le.mp zc53 | have ze53 := zc53
          refine hB bX4_begin_56 _ _ _ _ _ _ _ kX4_begin_56 ?_
          dsimp only [bX4_begin_56, kx_wp, kx_step, kx_lI, kx_lL, kx_lA, kx_gl, kx_pI, kx_pL, kx_pR, kx_pA, kx_pV, kx_s1, kx_s2, kx_sl, kx_pre, kx_c2, kx_pl, kx_cmp, kx_oF, kx_eqN, kx_nil, kx_c1, kx_ft, kx_aI, kx_aL, kx_aR, kx_ln, Nat.reduceAdd, Option.toList, List.cons_append, List.nil_append, cf4_3, cf4_4, cf4_2, cf4_5, cf4_7, cf4_6, cf4_0]
          repeat (simp only [jW_81, jW_82, jW_83, jW_p81, jW_p82, jW_p83, h7, nI_1, pk_us, pk_un, ne_eq, Nat.reduceEqDiff, not_false_eq_true, t5, cp4_3, cp4_4, cp4_2, cp4_5, cp4_7, cp4_6, ks_eq, ks_ss, f8, f9, c1, z3, hF2]; try dsimp only [kx_wp, kx_step, kx_lI, kx_lL, kx_lA, kx_gl, kx_pI, kx_pL, kx_pR, kx_pA, kx_pV, kx_s1, kx_s2, kx_sl, kx_pre, kx_c2, kx_pl, kx_cmp, kx_oF, kx_eqN, kx_nil, kx_c1, kx_ft, kx_aI, kx_aL, kx_aR, kx_ln, Nat.reduceAdd, Option.toList, List.cons_append, List.nil_append, cf4_3, cf4_4, cf4_2, cf4_5, cf4_7, cf4_6, cf4_0])
          repeat' apply And.intro
          all_goals try (first | with_reducible assumption | (with_reducible refine ck_nzI ?_; simp; done) | (with_reducible refine ck_nzL ?_; simp; done) | (with_reducible refine vp_in_nI ?_ ?_ <;> first | omega | decide) | (with_reducible refine Nat.le_of_ble_eq_true ?_; rfl) | omega | exact Or.inl trivial | exact Or.inr trivial | exact Or.inl rfl | exact Or.inr rfl | exact vp_in_nI (by omega) (by decide) | exact Nat.le_of_ble_eq_true rfl | (with_reducible refine ck_nzI ?_; decide) | exact (by decide : ¬ (39973 : Int32) < 0))
          refine hB bX4_begin_63 _ _ _ _ _ _ _ kX4_begin_63 ?_
          dsimp only [bX4_begin_63, kx_wp, kx_step, kx_lI, kx_lL, kx_lA, kx_gl, kx_pI, kx_pL, kx_pR, kx_pA, kx_pV, kx_s1, kx_s2, kx_sl, kx_pre, kx_c2, kx_pl, kx_cmp, kx_oF, kx_eqN, kx_nil, kx_c1, kx_ft, kx_aI, kx_aL, kx_aR, kx_ln, Nat.reduceAdd, Option.toList, List.cons_append, List.nil_append, cf4_3, cf4_4, cf4_2, cf4_5, cf4_7, cf4_6, cf4_0]
          repeat (simp only [jW_81, jW_82, jW_83, jW_p81, jW_p82, jW_p83, h7, nI_1, pk_us, pk_un, ne_eq, Nat.reduceEqDiff, not_false_eq_true, t5, cp4_3, cp4_4, cp4_2, cp4_5, cp4_7, cp4_6, ks_eq, ks_ss, f8, f9, c1, z3, hF2]; try dsimp only [kx_wp, kx_step, kx_lI, kx_lL, kx_lA, kx_gl, kx_pI, kx_pL, kx_pR, kx_pA, kx_pV, kx_s1, kx_s2, kx_sl, kx_pre, kx_c2, kx_pl, kx_cmp, kx_oF, kx_eqN, kx_nil, kx_c1, kx_ft, kx_aI, kx_aL, kx_aR, kx_ln, Nat.reduceAdd, Option.toList, List.cons_append, List.nil_append, cf4_3, cf4_4, cf4_2, cf4_5, cf4_7, cf4_6, cf4_0])
          repeat' apply And.intro
          all_goals try (first | with_reducible assumption | (with_reducible refine ck_nzI ?_; simp; done) | (with_reducible refine ck_nzL ?_; simp; done) | (with_reducible refine vp_in_nI ?_ ?_ <;> first | omega | decide) | (with_reducible refine Nat.le_of_ble_eq_true ?_; rfl) | omega | exact Or.inl trivial | exact Or.inr trivial | exact Or.inl rfl | exact Or.inr rfl | exact vp_in_nI (by omega) (by decide) | exact Nat.le_of_ble_eq_true rfl | (with_reducible refine ck_nzI ?_; decide) | exact (by decide : ¬ (39973 : Int32) < 0))
          · intro zc70
            first | exact absurd rfl zc70 | exact absurd zc70 (by decide) | exact absurd (by decide) zc70 | (exfalso; first | exact absurd ((nI_leI (a := 8) (b := 8) (by omega) (by omega)).mpr (by omega)) zc53 | exact absurd ((nI_leI (a := 8) (b := c) (by omega) (by omega)).mp zc53) (by omega) | exact zc70 hbt | exact hbt zc70 | exact hbt (Decidable.not_not.mp zc70) | exact absurd ((nI_leI (a := 4) (b := ck_ct s c) (by omega) (by omega)).mp zc82) (by omega)) | (exfalso; simp_all; done)
          · intro zc70
            with_reducible first | have ze70 := Decidable.not_not.mp zc70 | have ze70 := zc70
            refine hB bX4_begin_73 _ _ _ _ _ _ _ kX4_begin_73 ?_
            dsimp only [bX4_begin_73, kx_wp, kx_step, kx_lI, kx_lL, kx_lA, kx_gl, kx_pI, kx_pL, kx_pR, kx_pA, kx_pV, kx_s1, kx_s2, kx_sl, kx_pre, kx_c2, kx_pl, kx_cmp, kx_oF, kx_eqN, kx_nil, kx_c1, kx_ft, kx_aI, kx_aL, kx_aR, kx_ln, Nat.reduceAdd, Option.toList, List.cons_append, List.nil_append, cf4_3, cf4_4, cf4_2, cf4_5, cf4_7, cf4_6, cf4_0]
            repeat (simp only [jW_81, jW_82, jW_83, jW_p81, jW_p82, jW_p83, h7, nI_1, pk_us, pk_un, ne_eq, Nat.reduceEqDiff, not_false_eq_true, t5, cp4_3, cp4_4, cp4_2, cp4_5, cp4_7, cp4_6, ks_eq, ks_ss, f8, f9, c1, z3, hF2]; try dsimp only [kx_wp, kx_step, kx_lI, kx_lL, kx_lA, kx_gl, kx_pI, kx_pL, kx_pR, kx_pA, kx_pV, kx_s1, kx_s2, kx_sl, kx_pre, kx_c2, kx_pl, kx_cmp, kx_oF, kx_eqN, kx_nil, kx_c1, kx_ft, kx_aI, kx_aL, kx_aR, kx_ln, Nat.reduceAdd, Option.toList, List.cons_append, List.nil_append, cf4_3, cf4_4, cf4_2, cf4_5, cf4_7, cf4_6, cf4_0])
            repeat' apply And.intro
            all_goals try (first | with_reducible assumption | (with_reducible refine ck_nzI ?_; simp; done) | (with_reducible refine ck_nzL ?_; simp; done) | (with_reducible refine vp_in_nI ?_ ?_ <;> first | omega | decide) | (with_reducible refine Nat.le_of_ble_eq_true ?_; rfl) | omega | exact Or.inl trivial | exact Or.inr trivial | exact Or.inl rfl | exact Or.inr rfl | exact vp_in_nI (by omega) (by decide) | exact Nat.le_of_ble_eq_true rfl | (with_reducible refine ck_nzI ?_; decide) | exact (by decide : ¬ (39973 : Int32) < 0))
            · intro zc82
              first | exact absurd rfl zc82 | exact absurd zc82 (by decide) | exact absurd (by decide) zc82 | (exfalso; first | exact absurd ((nI_leI (a := 8) (b := 8) (by omega) (by omega)).mpr (by omega)) zc53 | exact absurd ((nI_leI (a := 8) (b := c) (by omega) (by omega)).mp zc53) (by omega) | exact zc70 hbt | exact hbt zc70 | exact hbt (Decidable.not_not.mp zc70) | exact absurd ((nI_leI (a := 4) (b := ck_ct s c) (by omega) (by omega)).mp zc82) (by omega)) | (exfalso; simp_all; done)
            · intro zc82
              with_reducible first | have ze82 := Int32.not_le.mp zc82 | have ze82 := zc82
              refine hB bX4_begin_85 _ _ _ _ _ _ _ kX4_begin_85 ?_
              dsimp only [bX4_begin_85, kx_wp, kx_step, kx_lI, kx_lL, kx_lA, kx_gl, kx_pI, kx_pL, kx_pR, kx_pA, kx_pV, kx_s1, kx_s2, kx_sl, kx_pre, kx_c2, kx_pl, kx_cmp, kx_oF, kx_eqN, kx_nil, kx_c1, kx_ft, kx_aI, kx_aL, kx_aR, kx_ln, Nat.reduceAdd, Option.toList, List.cons_append, List.nil_append, cf4_3, cf4_4, cf4_2, cf4_5, cf4_7, cf4_6, cf4_0]
              repeat (simp only [jW_81, jW_82, jW_83, jW_p81, jW_p82, jW_p83, h7, nI_1, pk_us, pk_un, ne_eq, Nat.reduceEqDiff, not_false_eq_true, t5, cp4_3, cp4_4, cp4_2, cp4_5, cp4_7, cp4_6, ks_eq, ks_ss, f8, f9, c1, z3, hF2]; try dsimp only [kx_wp, kx_step, kx_lI, kx_lL, kx_lA, kx_gl, kx_pI, kx_pL, kx_pR, kx_pA, kx_pV, kx_s1, kx_s2, kx_sl, kx_pre, kx_c2, kx_pl, kx_cmp, kx_oF, kx_eqN, kx_nil, kx_c1, kx_ft, kx_aI, kx_aL, kx_aR, kx_ln, Nat.reduceAdd, Option.toList, List.cons_append, List.nil_append, cf4_3, cf4_4, cf4_2, cf4_5, cf4_7, cf4_6, cf4_0])
              repeat' apply And.intro
              all_goals try (first | with_reducible assumption | (with_reducible refine ck_nzI ?_; simp; done) | (with_reducible refine ck_nzL ?_; simp; done) | (with_reducible refine vp_in_nI ?_ ?_ <;> first | omega | decide) | (with_reducible refine Nat.le_of_ble_eq_true ?_; rfl) | omega | exact Or.inl trivial | exact Or.inr trivial | exact Or.inl rfl | exact Or.inr rfl | exact vp_in_nI (by omega) (by decide) | exact Nat.le_of_ble_eq_true rfl | (with_reducible refine ck_nzI ?_; decide) | exact (by decide : ¬ (39973 : Int32) < 0))
              refine hC.1 38 _ _ _ _ _ _ _ 4 _ _ _ _ _ _ _ _ _ _ _ _ lX4_38 (ct_X4_join l G hc1v hc2v ⟨hc3, hc4⟩ (hF2 c) (by omega) e6 e7 e8 ⟨e9, e10⟩ (hF3 c) (by omega) rfl (fun v h => cp_stl_lt hd.2 c v h)) ⟨by decide, rfl⟩ (jW_81) rfl rfl (Nat.le_of_ble_eq_true rfl) (by first | decide | omega) (by decide) (by omega) (by omega) dX4_begin_92 ?_
              rw [cp_Fc_s hb1]
              refine hB bX4_begin_95 _ _ _ _ _ _ _ kX4_begin_95 ?_
              dsimp only [bX4_begin_95, kx_wp, kx_step, kx_lI, kx_lL, kx_lA, kx_gl, kx_pI, kx_pL, kx_pR, kx_pA, kx_pV, kx_s1, kx_s2, kx_sl, kx_pre, kx_c2, kx_pl, kx_cmp, kx_oF, kx_eqN, kx_nil, kx_c1, kx_ft, kx_aI, kx_aL, kx_aR, kx_ln, Nat.reduceAdd, Option.toList, List.cons_append, List.nil_append, cf4_3, cf4_4, cf4_2, cf4_5, cf4_7, cf4_6, cf4_0]
              repeat (simp only [jW_81, jW_82, jW_83, jW_p81, jW_p82, jW_p83, h7, nI_1, pk_us, pk_un, ne_eq, Nat.reduceEqDiff, not_false_eq_true, t5, cp4_3, cp4_4, cp4_2, cp4_5, cp4_7, cp4_6, ks_eq, ks_ss, f8, f9, c1, z3, hF2]; try dsimp only [kx_wp, kx_step, kx_lI, kx_lL, kx_lA, kx_gl, kx_pI, kx_pL, kx_pR, kx_pA, kx_pV, kx_s1, kx_s2, kx_sl, kx_pre, kx_c2, kx_pl, kx_cmp, kx_oF, kx_eqN, kx_nil, kx_c1, kx_ft, kx_aI, kx_aL, kx_aR, kx_ln, Nat.reduceAdd, Option.toList, List.cons_append, List.nil_append, cf4_3, cf4_4, cf4_2, cf4_5, cf4_7, cf4_6, cf4_0])
              repeat' apply And.intro
              all_goals try (first | with_reducible assumption | (with_reducible refine ck_nzI ?_; simp; done) | (with_reducible refine ck_nzL ?_; simp; done) | (with_reducible refine vp_in_nI ?_ ?_ <;> first | omega | decide) | (with_reducible refine Nat.le_of_ble_eq_true ?_; rfl) | omega | exact Or.inl trivial | exact Or.inr trivial | exact Or.inl rfl | exact Or.inr rfl | exact vp_in_nI (by omega) (by decide) | exact Nat.le_of_ble_eq_true rfl | (with_reducible refine ck_nzI ?_; decide) | exact (by decide : ¬ (39973 : Int32) < 0))
              all_goals exact zi
      · have hb0 : ¬ s / 2 ^ c % 2 = 1 := fun e => hbt (by rw [e]; rfl)
        rw [← cp_Fc_n hb0, ck_pcl, if_neg hb0, cp_wsl, if_neg hb0] at zi
        refine hB bX4_begin_49 _ _ _ _ _ _ _ kX4_begin_49 ?_
        dsimp only [bX4_begin_49, kx_wp, kx_step, kx_lI, kx_lL, kx_lA, kx_gl, kx_pI, kx_pL, kx_pR, kx_pA, kx_pV, kx_s1, kx_s2, kx_sl, kx_pre, kx_c2, kx_pl, kx_cmp, kx_oF, kx_eqN, kx_nil, kx_c1, kx_ft, kx_aI, kx_aL, kx_aR, kx_ln, Nat.reduceAdd, Option.toList, List.cons_append, List.nil_append, cf4_3, cf4_4, cf4_2, cf4_5, cf4_7, cf4_6, cf4_0]
        repeat (simp only [jW_81, jW_82, jW_83, jW_p81, jW_p82, jW_p83, h7, nI_1, pk_us, pk_un, ne_eq, Nat.reduceEqDiff, not_false_eq_true, t5, cp4_3, cp4_4, cp4_2, cp4_5, cp4_7, cp4_6, ks_eq, ks_ss, f8, f9, c1, z3, hF2]; try dsimp only [kx_wp, kx_step, kx_lI, kx_lL, kx_lA, kx_gl, kx_pI, kx_pL, kx_pR, kx_pA, kx_pV, kx_s1, kx_s2, kx_sl, kx_pre, kx_c2, kx_pl, kx_cmp, kx_oF, kx_eqN, kx_nil, kx_c1, kx_ft, kx_aI, kx_aL, kx_aR, kx_ln, Nat.reduceAdd, Option.toList, List.cons_append, List.nil_append, cf4_3, cf4_4, cf4_2, cf4_5, cf4_7, cf4_6, cf4_0])
        repeat' apply And.intro
        all_goals try (first | with_reducible assumption | (with_reducible refine ck_nzI ?_; simp; done) | (with_reducible refine ck_nzL ?_; simp; done) | (with_reducible refine vp_in_nI ?_ ?_ <;> first | omega | decide) | (with_reducible refine Nat.le_of_ble_eq_true ?_; rfl) | omega | exact Or.inl trivial | exact Or.inr trivial | exact Or.inl rfl | exact Or.inr rfl | exact vp_in_nI (by omega) (by decide) | exact Nat.le_of_ble_eq_true rfl | (with_reducible refine ck_nzI ?_; decide) | exact (by decide : ¬ (39973 : Int32) < 0))
        · intro zc53
          first | exact absurd rfl zc53 | exact absurd zc53 (by decide) | exact absurd (by decide) zc53 | (exfalso; first | exact absurd ((nI_leI (a := 8) (b := 8) (by omega) (by omega)).mpr (by omega)) zc53 | exact absurd ((nI_leI (a := 8) (b := c) (by omega) (by omega)).mp zc53) (by omega) | exact zc70 hbt | exact hbt zc70 | exact hbt (Decidable.not_not.mp zc70) | exact absurd ((nI_leI (a := 4) (b := ck_ct s c) (by omega) (by omega)).mp zc82) (by omega)) | (exfalso; simp_all; done)
        · intro zc53
          with_reducible first | have ze53 := Int32.not_le.mp zc53 | have ze53 := zc53
          refine hB bX4_begin_56 _ _ _ _ _ _ _ kX4_begin_56 ?_
          dsimp only [bX4_begin_56, kx_wp, kx_step, kx_lI, kx_lL, kx_lA, kx_gl, kx_pI, kx_pL, kx_pR, kx_pA, kx_pV, kx_s1, kx_s2, kx_sl, kx_pre, kx_c2, kx_pl, kx_cmp, kx_oF, kx_eqN, kx_nil, kx_c1, kx_ft, kx_aI, kx_aL, kx_aR, kx_ln, Nat.reduceAdd, Option.toList, List.cons_append, List.nil_append, cf4_3, cf4_4, cf4_2, cf4_5, cf4_7, cf4_6, cf4_0]
          repeat (simp only [jW_81, jW_82, jW_83, jW_p81, jW_p82, jW_p83, h7, nI_1, pk_us, pk_un, ne_eq, Nat.reduceEqDiff, not_false_eq_true, t5, cp4_3, cp4_4, cp4_2, cp4_5, cp4_7, cp4_6, ks_eq, ks_ss, f8, f9, c1, z3, hF2]; try dsimp only [kx_wp, kx_step, kx_lI, kx_lL, kx_lA, kx_gl, kx_pI, kx_pL, kx_pR, kx_pA, kx_pV, kx_s1, kx_s2, kx_sl, kx_pre, kx_c2, kx_pl, kx_cmp, kx_oF, kx_eqN, kx_nil, kx_c1, kx_ft, kx_aI, kx_aL, kx_aR, kx_ln, Nat.reduceAdd, Option.toList, List.cons_append, List.nil_append, cf4_3, cf4_4, cf4_2, cf4_5, cf4_7, cf4_6, cf4_0])
          repeat' apply And.intro
          all_goals try (first | with_reducible assumption | (with_reducible refine ck_nzI ?_; simp; done) | (with_reducible refine ck_nzL ?_; simp; done) | (with_reducible refine vp_in_nI ?_ ?_ <;> first | omega | decide) | (with_reducible refine Nat.le_of_ble_eq_true ?_; rfl) | omega | exact Or.inl trivial | exact Or.inr trivial | exact Or.inl rfl | exact Or.inr rfl | exact vp_in_nI (by omega) (by decide) | exact Nat.le_of_ble_eq_true rfl | (with_reducible refine ck_nzI ?_; decide) | exact (by decide : ¬ (39973 : Int32) < 0))
          refine hB bX4_begin_63 _ _ _ _ _ _ _ kX4_begin_63 ?_
          dsimp only [bX4_begin_63, kx_wp, kx_step, kx_lI, kx_lL, kx_lA, kx_gl, kx_pI, kx_pL, kx_pR, kx_pA, kx_pV, kx_s1, kx_s2, kx_sl, kx_pre, kx_c2, kx_pl, kx_cmp, kx_oF, kx_eqN, kx_nil, kx_c1, kx_ft, kx_aI, kx_aL, kx_aR, kx_ln, Nat.reduceAdd, Option.toList, List.cons_append, List.nil_append, cf4_3, cf4_4, cf4_2, cf4_5, cf4_7, cf4_6, cf4_0]
          repeat (simp only [jW_81, jW_82, jW_83, jW_p81, jW_p82, jW_p83, h7, nI_1, pk_us, pk_un, ne_eq, Nat.reduceEqDiff, not_false_eq_true, t5, cp4_3, cp4_4, cp4_2, cp4_5, cp4_7, cp4_6, ks_eq, ks_ss, f8, f9, c1, z3, hF2]; try dsimp only [kx_wp, kx_step, kx_lI, kx_lL, kx_lA, kx_gl, kx_pI, kx_pL, kx_pR, kx_pA, kx_pV, kx_s1, kx_s2, kx_sl, kx_pre, kx_c2, kx_pl, kx_cmp, kx_oF, kx_eqN, kx_nil, kx_c1, kx_ft, kx_aI, kx_aL, kx_aR, kx_ln, Nat.reduceAdd, Option.toList, List.cons_append, List.nil_append, cf4_3, cf4_4, cf4_2, cf4_5, cf4_7, cf4_6, cf4_0])
          repeat' apply And.intro
          all_goals try (first | with_reducible assumption | (with_reducible refine ck_nzI ?_; simp; done) | (with_reducible refine ck_nzL ?_; simp; done) | (with_reducible refine vp_in_nI ?_ ?_ <;> first | omega | decide) | (with_reducible refine Nat.le_of_ble_eq_true ?_; rfl) | omega | exact Or.inl trivial | exact Or.inr trivial | exact Or.inl rfl | exact Or.inr rfl | exact vp_in_nI (by omega) (by decide) | exact Nat.le_of_ble_eq_true rfl | (with_reducible refine ck_nzI ?_; decide) | exact (by decide : ¬ (39973 : Int32) < 0))
          · intro zc70
            have ze70 := zc70
            refine hB bX4_begin_95 _ _ _ _ _ _ _ kX4_begin_95 ?_
            dsimp only [bX4_begin_95, kx_wp, kx_step, kx_lI, kx_lL, kx_lA, kx_gl, kx_pI, kx_pL, kx_pR, kx_pA, kx_pV, kx_s1, kx_s2, kx_sl, kx_pre, kx_c2, kx_pl, kx_cmp, kx_oF, kx_eqN, kx_nil, kx_c1, kx_ft, kx_aI, kx_aL, kx_aR, kx_ln, Nat.reduceAdd, Option.toList, List.cons_append, List.nil_append, cf4_3, cf4_4, cf4_2, cf4_5, cf4_7, cf4_6, cf4_0]
            repeat (simp only [jW_81, jW_82, jW_83, jW_p81, jW_p82, jW_p83, h7, nI_1, pk_us, pk_un, ne_eq, Nat.reduceEqDiff, not_false_eq_true, t5, cp4_3, cp4_4, cp4_2, cp4_5, cp4_7, cp4_6, ks_eq, ks_ss, f8, f9, c1, z3, hF2]; try dsimp only [kx_wp, kx_step, kx_lI, kx_lL, kx_lA, kx_gl, kx_pI, kx_pL, kx_pR, kx_pA, kx_pV, kx_s1, kx_s2, kx_sl, kx_pre, kx_c2, kx_pl, kx_cmp, kx_oF, kx_eqN, kx_nil, kx_c1, kx_ft, kx_aI, kx_aL, kx_aR, kx_ln, Nat.reduceAdd, Option.toList, List.cons_append, List.nil_append, cf4_3, cf4_4, cf4_2, cf4_5, cf4_7, cf4_6, cf4_0])
            repeat' apply And.intro
            all_goals try (first | with_reducible assumption | (with_reducible refine ck_nzI ?_; simp; done) | (with_reducible refine ck_nzL ?_; simp; done) | (with_reducible refine vp_in_nI ?_ ?_ <;> first | omega | decide) | (with_reducible refine Nat.le_of_ble_eq_true ?_; rfl) | omega | exact Or.inl trivial | exact Or.inr trivial | exact Or.inl rfl | exact Or.inr rfl | exact vp_in_nI (by omega) (by decide) | exact Nat.le_of_ble_eq_true rfl | (with_reducible refine ck_nzI ?_; decide) | exact (by decide : ¬ (39973 : Int32) < 0))
            all_goals exact zi
          · intro zc70
            first | exact absurd rfl zc70 | exact absurd zc70 (by decide) | exact absurd (by decide) zc70 | (exfalso; first | exact absurd ((nI_leI (a := 8) (b := 8) (by omega) (by omega)).mpr (by omega)) zc53 | exact absurd ((nI_leI (a := 8) (b := c) (by omega) (by omega)).mp zc53) (by omega) | exact zc70 hbt | exact hbt zc70 | exact hbt (Decidable.not_not.mp zc70) | exact absurd ((nI_leI (a := 4) (b := ck_ct s c) (by omega) (by omega)).mp zc82) (by omega)) | (exfalso; simp_all; done)
  refine hB bX4_begin_0 _ _ _ _ _ _ _ kX4_begin_0 ?_
  dsimp only [bX4_begin_0, kx_wp, kx_step, kx_lI, kx_lL, kx_lA, kx_gl, kx_pI, kx_pL, kx_pR, kx_pA, kx_pV, kx_s1, kx_s2, kx_sl, kx_pre, kx_c2, kx_pl, kx_cmp, kx_oF, kx_eqN, kx_nil, kx_c1, kx_ft, kx_aI, kx_aL, kx_aR, kx_ln, Nat.reduceAdd, Option.toList, List.cons_append, List.nil_append, cf4_3, cf4_4, cf4_2, cf4_5, cf4_7, cf4_6, cf4_0]
  repeat (simp only [jW_81, jW_82, jW_83, jW_p81, jW_p82, jW_p83, h7, nI_1, pk_us, pk_un, ne_eq, Nat.reduceEqDiff, not_false_eq_true, t5, cp4_3, cp4_4, cp4_2, cp4_5, cp4_7, cp4_6, ks_eq, ks_ss]; try dsimp only [kx_wp, kx_step, kx_lI, kx_lL, kx_lA, kx_gl, kx_pI, kx_pL, kx_pR, kx_pA, kx_pV, kx_s1, kx_s2, kx_sl, kx_pre, kx_c2, kx_pl, kx_cmp, kx_oF, kx_eqN, kx_nil, kx_c1, kx_ft, kx_aI, kx_aL, kx_aR, kx_ln, Nat.reduceAdd, Option.toList, List.cons_append, List.nil_append, cf4_3, cf4_4, cf4_2, cf4_5, cf4_7, cf4_6, cf4_0])
  repeat' apply And.intro
  all_goals try (first | with_reducible assumption | (with_reducible refine ck_nzI ?_; simp; done) | (with_reducible refine ck_nzL ?_; simp; done) | (with_reducible refine vp_in_nI ?_ ?_ <;> first | omega | decide) | (with_reducible refine Nat.le_of_ble_eq_true ?_; rfl) | omega | exact Or.inl trivial | exact Or.inr trivial | exact Or.inl rfl | exact Or.inr rfl | exact vp_in_nI (by omega) (by decide) | exact Nat.le_of_ble_eq_true rfl | (with_reducible refine ck_nzI ?_; decide) | exact (by decide : ¬ (39973 : Int32) < 0))
  refine hB bX4_begin_46 _ _ _ _ _ _ _ kX4_begin_46 ?_
  dsimp only [bX4_begin_46, kx_wp, kx_step, kx_lI, kx_lL, kx_lA, kx_gl, kx_pI, kx_pL, kx_pR, kx_pA, kx_pV, kx_s1, kx_s2, kx_sl, kx_pre, kx_c2, kx_pl, kx_cmp, kx_oF, kx_eqN, kx_nil, kx_c1, kx_ft, kx_aI, kx_aL, kx_aR, kx_ln, Nat.reduceAdd, Option.toList, List.cons_append, List.nil_append, cf4_3, cf4_4, cf4_2, cf4_5, cf4_7, cf4_6, cf4_0]
  repeat (simp only [jW_81, jW_82, jW_83, jW_p81, jW_p82, jW_p83, h7, nI_1, pk_us, pk_un, ne_eq, Nat.reduceEqDiff, not_false_eq_true, t5, cp4_3, cp4_4, cp4_2, cp4_5, cp4_7, cp4_6, ks_eq, ks_ss]; try dsimp only [kx_wp, kx_step, kx_lI, kx_lL, kx_lA, kx_gl, kx_pI, kx_pL, kx_pR, kx_pA, kx_pV, kx_s1, kx_s2, kx_sl, kx_pre, kx_c2, kx_pl, kx_cmp, kx_oF, kx_eqN, kx_nil, kx_c1, kx_ft, kx_aI, kx_aL, kx_aR, kx_ln, Nat.reduceAdd, Option.toList, List.cons_append, List.nil_append, cf4_3, cf4_4, cf4_2, cf4_5, cf4_7, cf4_6, cf4_0])
  repeat' apply And.intro
  all_goals try (first | with_reducible assumption | (with_reducible refine ck_nzI ?_; simp; done) | (with_reducible refine ck_nzL ?_; simp; done) | (with_reducible refine vp_in_nI ?_ ?_ <;> first | omega | decide) | (with_reducible refine Nat.le_of_ble_eq_true ?_; rfl) | omega | exact Or.inl trivial | exact Or.inr trivial | exact Or.inl rfl | exact Or.inr rfl | exact vp_in_nI (by omega) (by decide) | exact Nat.le_of_ble_eq_true rfl | (with_reducible refine ck_nzI ?_; decide) | exact (by decide : ¬ (39973 : Int32) < 0))
  have zi := loop49 cl 0 (by omega)
  rw [cp_Fc_0] at zi
  all_goals exact zi

set_option maxRecDepth 100000 in
set_option maxHeartbeats 4000000 in
theorem ct_X4_begin_n (l : Launch) (G : kx_G) {P : kx_P} {sz : Nat} {cl : Nat} (hcl : cl ≤ 8) {cn wn : Nat → Nat} {DD : Nat → Int64} {HH : Nat → Value} {CC VV : Nat → Nat → Int32} (hCS : cx_CS P cl cn wn DD HH CC VV) {lf run : Nat → Nat} (hlr : ∀ i, i < cl → CC i 6 = nI (lf i) ∧ lf i ≤ 44640 ∧ VV i 0 = nI (run i) ∧ 1 ≤ run i ∧ run i ≤ 31) {F NU WS : Nat → Int32} {s days many se : Nat} (hs : s < 2 ^ cl) (hs4 : ck_pc s ≤ 4) (hd : 1 ≤ days ∧ days ≤ 10) (h7 : F 7 = nI se) (hse : se ≤ 1000) (hfr : P sz = none) (hsz : 144 ≤ sz)  : kx_M l G sX4_begin 5 1 39973 [.ref 81, .ref 69, .int (nI s), .int (nI days), .int (nI many)] (jW P .null F NU WS) sz none (jW (kx_set P sz (kI 0 39973 (fun _ => 0))) (.ref sz) (cp_Fc F days many se lf s 8) (ck_pcl NU s 8) (cp_wsl WS run s 8)) (sz + 1) := by
  obtain ⟨h69, hcs⟩ := hCS
  have nfr : ∀ q x, P q = some x → ¬ q = sz := fun q x h e => by rw [e, hfr] at h; cases h
  have nj : ¬ sz = 81 ∧ ¬ sz = 82 ∧ ¬ sz = 83 := ⟨by omega, by omega, by omega⟩
  have t5 : ∀ nv F NU WS, jW (kx_set P sz (kI 0 39973 (fun _ => 0))) nv F NU WS 69 = kR 8 (fun i => if i < cl then some (cn i) else none) := fun _ _ _ _ => (jW_o (by decide) (by decide) (by decide)).trans ((ks_ne (by omega)).trans h69)
  have s256 : s < 256 := Nat.lt_of_lt_of_le hs (Nat.le_trans (Nat.pow_le_pow_right (n := 2) (by decide) hcl) (by decide))
  have hF3 : ∀ c, (cp_Fc F days many se lf s c) 3 = nI days := fun _ => rfl
  have hF2 : ∀ c, (cp_Fc F days many se lf s c) 2 = nI (ck_ct s c) := fun _ => rfl
  refine kx_mk kx_tab kxLok_X4 (ini := false) [some (.ref 81), some (.ref 69), some (.int (nI s)), some (.int (nI days)), some (.int (nI many)), none] ⟨by decide, rfl, by decide, by decide⟩ (rfl) rfl rfl (fun g hB hC => ?_)
  have hnull : ∀ (n9 c : Nat), c + n9 = 8 → cl ≤ c → g 49 [some (.ref 81), some (.ref 69), some (.int (nI s)), some (.int (nI days)), some (.int (nI many)), some (.int (nI (c)))] [] (jW (kx_set P sz (kI 0 39973 (fun _ => 0))) (.ref sz) (cp_Fc F days many se lf s c) (ck_pcl NU s c) (cp_wsl WS run s c)) (sz + 1) 1 39973 := by
    intro n9
    induction n9 with
    | zero =>
      intro c hc hc2
      obtain rfl : c = 8 := by omega
      refine hB bX4_begin_49 _ _ _ _ _ _ _ kX4_begin_49 ?_
      dsimp only [bX4_begin_49, kx_wp, kx_step, kx_lI, kx_lL, kx_lA, kx_gl, kx_pI, kx_pL, kx_pR, kx_pA, kx_pV, kx_s1, kx_s2, kx_sl, kx_pre, kx_c2, kx_pl, kx_cmp, kx_oF, kx_eqN, kx_nil, kx_c1, kx_ft, kx_aI, kx_aL, kx_aR, kx_ln, Nat.reduceAdd, Option.toList, List.cons_append, List.nil_append, cf4_3, cf4_4, cf4_2, cf4_5, cf4_7, cf4_6, cf4_0]
      repeat (simp only [jW_81, jW_82, jW_83, jW_p81, jW_p82, jW_p83, h7, nI_1, pk_us, pk_un, ne_eq, Nat.reduceEqDiff, not_false_eq_true, jW_n nj, cp4_3, cp4_4, cp4_2, cp4_5, cp4_7, cp4_6, ks_eq, ks_ss, t5]; try dsimp only [kx_wp, kx_step, kx_lI, kx_lL, kx_lA, kx_gl, kx_pI, kx_pL, kx_pR, kx_pA, kx_pV, kx_s1, kx_s2, kx_sl, kx_pre, kx_c2, kx_pl, kx_cmp, kx_oF, kx_eqN, kx_nil, kx_c1, kx_ft, kx_aI, kx_aL, kx_aR, kx_ln, Nat.reduceAdd, Option.toList, List.cons_append, List.nil_append, cf4_3, cf4_4, cf4_2, cf4_5, cf4_7, cf4_6, cf4_0])
      repeat' apply And.intro
      all_goals try (first | with_reducible assumption | (with_reducible refine ck_nzI ?_; simp; done) | (with_reducible refine ck_nzL ?_; simp; done) | (with_reducible refine vp_in_nI ?_ ?_ <;> first | omega | decide) | (with_reducible refine Nat.le_of_ble_eq_true ?_; rfl) | omega | exact Or.inl trivial | exact Or.inr trivial | exact Or.inl rfl | exact Or.inr rfl | exact vp_in_nI (by omega) (by decide) | exact Nat.le_of_ble_eq_true rfl | (with_reducible refine ck_nzI ?_; decide) | exact (by decide : ¬ (39973 : Int32) < 0))
      · intro zc53
        with_reducible first | have ze53 := Int32.not_lt.mpr zc53 | have ze53 := zc53
        refine hB bX4_begin_101 _ _ _ _ _ _ _ kX4_begin_101 ?_
        dsimp only [bX4_begin_101, kx_wp, kx_step, kx_lI, kx_lL, kx_lA, kx_gl, kx_pI, kx_pL, kx_pR, kx_pA, kx_pV, kx_s1, kx_s2, kx_sl, kx_pre, kx_c2, kx_pl, kx_cmp, kx_oF, kx_eqN, kx_nil, kx_c1, kx_ft, kx_aI, kx_aL, kx_aR, kx_ln, Nat.reduceAdd, Option.toList, List.cons_append, List.nil_append, cf4_3, cf4_4, cf4_2, cf4_5, cf4_7, cf4_6, cf4_0]
        repeat (simp only [jW_81, jW_82, jW_83, jW_p81, jW_p82, jW_p83, h7, nI_1, pk_us, pk_un, ne_eq, Nat.reduceEqDiff, not_false_eq_true, jW_n nj, cp4_3, cp4_4, cp4_2, cp4_5, cp4_7, cp4_6, ks_eq, ks_ss, t5]; try dsimp only [kx_wp, kx_step, kx_lI, kx_lL, kx_lA, kx_gl, kx_pI, kx_pL, kx_pR, kx_pA, kx_pV, kx_s1, kx_s2, kx_sl, kx_pre, kx_c2, kx_pl, kx_cmp, kx_oF, kx_eqN, kx_nil, kx_c1, kx_ft, kx_aI, kx_aL, kx_aR, kx_ln, Nat.reduceAdd, Option.toList, List.cons_append, List.nil_append, cf4_3, cf4_4, cf4_2, cf4_5, cf4_7, cf4_6, cf4_0])
        all_goals (repeat' apply And.intro)
        all_goals ((try clear hB hC); first | exact True.intro | rfl)
      · intro zc53
        first | exact absurd rfl zc53 | exact absurd zc53 (by decide) | exact absurd (by decide) zc53 | (exfalso; first | exact absurd ((nI_leI (a := 8) (b := 8) (by omega) (by omega)).mpr (by omega)) zc53 | exact absurd ((nI_leI (a := 8) (b := c) (by omega) (by omega)).mp zc53) (by omega) | exact zc70 hbt | exact hbt zc70 | exact hbt (Decidable.not_not.mp zc70) | exact absurd ((nI_leI (a := 4) (b := ck_ct s c) (by omega) (by omega)).mp zc82) (by omega)) | (exfalso; simp_all; done)
    | succ n9 ih =>
      intro c hc hc2
      have e8 : (if c < cl then some (cn c) else none) = none := if_neg (by omega)
      have e9 : va_rf none = .null := rfl
      have c1 : (nI c).toNatClampNeg = c := nI_clamp (by omega)
      have hb0 : ¬ s / 2 ^ c % 2 = 1 := by rw [cp_bt0 s s256 cl hcl hs c (by omega) hc2]; decide
      have zi := ih (c + 1) (by omega) (by omega)
      rw [← cp_Fc_n hb0, ck_pcl, if_neg hb0, cp_wsl, if_neg hb0] at zi
      refine hB bX4_begin_49 _ _ _ _ _ _ _ kX4_begin_49 ?_
      dsimp only [bX4_begin_49, kx_wp, kx_step, kx_lI, kx_lL, kx_lA, kx_gl, kx_pI, kx_pL, kx_pR, kx_pA, kx_pV, kx_s1, kx_s2, kx_sl, kx_pre, kx_c2, kx_pl, kx_cmp, kx_oF, kx_eqN, kx_nil, kx_c1, kx_ft, kx_aI, kx_aL, kx_aR, kx_ln, Nat.reduceAdd, Option.toList, List.cons_append, List.nil_append, cf4_3, cf4_4, cf4_2, cf4_5, cf4_7, cf4_6, cf4_0]
      repeat (simp only [jW_81, jW_82, jW_83, jW_p81, jW_p82, jW_p83, h7, nI_1, pk_us, pk_un, ne_eq, Nat.reduceEqDiff, not_false_eq_true, jW_n nj, cp4_3, cp4_4, cp4_2, cp4_5, cp4_7, cp4_6, ks_eq, ks_ss, t5, e8, e9, c1]; try dsimp only [kx_wp, kx_step, kx_lI, kx_lL, kx_lA, kx_gl, kx_pI, kx_pL, kx_pR, kx_pA, kx_pV, kx_s1, kx_s2, kx_sl, kx_pre, kx_c2, kx_pl, kx_cmp, kx_oF, kx_eqN, kx_nil, kx_c1, kx_ft, kx_aI, kx_aL, kx_aR, kx_ln, Nat.reduceAdd, Option.toList, List.cons_append, List.nil_append, cf4_3, cf4_4, cf4_2, cf4_5, cf4_7, cf4_6, cf4_0])
      repeat' apply And.intro
      all_goals try (first | with_reducible assumption | (with_reducible refine ck_nzI ?_; simp; done) | (with_reducible refine ck_nzL ?_; simp; done) | (with_reducible refine vp_in_nI ?_ ?_ <;> first | omega | decide) | (with_reducible refine Nat.le_of_ble_eq_true ?_; rfl) | omega | exact Or.inl trivial | exact Or.inr trivial | exact Or.inl rfl | exact Or.inr rfl | exact vp_in_nI (by omega) (by decide) | exact Nat.le_of_ble_eq_true rfl | (with_reducible refine ck_nzI ?_; decide) | exact (by decide : ¬ (39973 : Int32) < 0))
      · intro zc53
        first | exact absurd rfl zc53 | exact absurd zc53 (by decide) | exact absurd (by decide) zc53 | (exfalso; first | exact absurd ((nI_leI (a := 8) (b := 8) (by omega) (by omega)).mpr (by omega)) zc53 | exact absurd ((nI_leI (a := 8) (b := c) (by omega) (by omega)).mp zc53) (by omega) | exact zc70 hbt | exact hbt zc70 | exact hbt (Decidable.not_not.mp zc70) | exact absurd ((nI_leI (a := 4) (b := ck_ct s c) (by omega) (by omega)).mp zc82) (by omega)) | (exfalso; simp_all; done)
      · intro zc53
        with_reducible first | have ze53 := Int32.not_le.mp zc53 | have ze53 := zc53
        refine hB bX4_begin_56 _ _ _ _ _ _ _ kX4_begin_56 ?_
        dsimp only [bX4_begin_56, kx_wp, kx_step, kx_lI, kx_lL, kx_lA, kx_gl, kx_pI, kx_pL, kx_pR, kx_pA, kx_pV, kx_s1, kx_s2, kx_sl, kx_pre, kx_c2, kx_pl, kx_cmp, kx_oF, kx_eqN, kx_nil, kx_c1, kx_ft, kx_aI, kx_aL, kx_aR, kx_ln, Nat.reduceAdd, Option.toList, List.cons_append, List.nil_append, cf4_3, cf4_4, cf4_2, cf4_5, cf4_7, cf4_6, cf4_0]
        repeat (simp only [jW_81, jW_82, jW_83, jW_p81, jW_p82, jW_p83, h7, nI_1, pk_us, pk_un, ne_eq, Nat.reduceEqDiff, not_false_eq_true, jW_n nj, cp4_3, cp4_4, cp4_2, cp4_5, cp4_7, cp4_6, ks_eq, ks_ss, t5, e8, e9, c1]; try dsimp only [kx_wp, kx_step, kx_lI, kx_lL, kx_lA, kx_gl, kx_pI, kx_pL, kx_pR, kx_pA, kx_pV, kx_s1, kx_s2, kx_sl, kx_pre, kx_c2, kx_pl, kx_cmp, kx_oF, kx_eqN, kx_nil, kx_c1, kx_ft, kx_aI, kx_aL, kx_aR, kx_ln, Nat.reduceAdd, Option.toList, List.cons_append, List.nil_append, cf4_3, cf4_4, cf4_2, cf4_5, cf4_7, cf4_6, cf4_0])
        repeat' apply And.intro
        all_goals try (first | with_reducible assumption | (with_reducible refine ck_nzI ?_; simp; done) | (with_reducible refine ck_nzL ?_; simp; done) | (with_reducible refine vp_in_nI ?_ ?_ <;> first | omega | decide) | (with_reducible refine Nat.le_of_ble_eq_true ?_; rfl) | omega | exact Or.inl trivial | exact Or.inr trivial | exact Or.inl rfl | exact Or.inr rfl | exact vp_in_nI (by omega) (by decide) | exact Nat.le_of_ble_eq_true rfl | (with_reducible refine ck_nzI ?_; decide) | exact (by decide : ¬ (39973 : Int32) < 0))
        refine hB bX4_begin_95 _ _ _ _ _ _ _ kX4_begin_95 ?_
        dsimp only [bX4_begin_95, kx_wp, kx_step, kx_lI, kx_lL, kx_lA, kx_gl, kx_pI, kx_pL, kx_pR, kx_pA, kx_pV, kx_s1, kx_s2, kx_sl, kx_pre, kx_c2, kx_pl, kx_cmp, kx_oF, kx_eqN, kx_nil, kx_c1, kx_ft, kx_aI, kx_aL, kx_aR, kx_ln, Nat.reduceAdd, Option.toList, List.cons_append, List.nil_append, cf4_3, cf4_4, cf4_2, cf4_5, cf4_7, cf4_6, cf4_0]
        repeat (simp only [jW_81, jW_82, jW_83, jW_p81, jW_p82, jW_p83, h7, nI_1, pk_us, pk_un, ne_eq, Nat.reduceEqDiff, not_false_eq_true, jW_n nj, cp4_3, cp4_4, cp4_2, cp4_5, cp4_7, cp4_6, ks_eq, ks_ss, t5, e8, e9, c1]; try dsimp only [kx_wp, kx_step, kx_lI, kx_lL, kx_lA, kx_gl, kx_pI, kx_pL, kx_pR, kx_pA, kx_pV, kx_s1, kx_s2, kx_sl, kx_pre, kx_c2, kx_pl, kx_cmp, kx_oF, kx_eqN, kx_nil, kx_c1, kx_ft, kx_aI, kx_aL, kx_aR, kx_ln, Nat.reduceAdd, Option.toList, List.cons_append, List.nil_append, cf4_3, cf4_4, cf4_2, cf4_5, cf4_7, cf4_6, cf4_0])
        repeat' apply And.intro
        all_goals try (first | with_reducible assumption | (with_reducible refine ck_nzI ?_; simp; done) | (with_reducible refine ck_nzL ?_; simp; done) | (with_reducible refine vp_in_nI ?_ ?_ <;> first | omega | decide) | (with_reducible refine Nat.le_of_ble_eq_true ?_; rfl) | omega | exact Or.inl trivial | exact Or.inr trivial | exact Or.inl rfl | exact Or.inr rfl | exact vp_in_nI (by omega) (by decide) | exact Nat.le_of_ble_eq_true rfl | (with_reducible refine ck_nzI ?_; decide) | exact (by decide : ¬ (39973 : Int32) < 0))
        all_goals exact zi
  have loop49 : ∀ (n9 c : Nat), c + n9 = cl → g 49 [some (.ref 81), some (.ref 69), some (.int (nI s)), some (.int (nI days)), some (.int (nI many)), some (.int (nI (c)))] [] (jW (kx_set P sz (kI 0 39973 (fun _ => 0))) (.ref sz) (cp_Fc F days many se lf s c) (ck_pcl NU s c) (cp_wsl WS run s c)) (sz + 1) 1 39973 := by
    intro n9
    induction n9 with
    | zero =>
      intro c hc
      exact hnull (8 - c) c (by omega) (by omega)
    | succ n9 ih =>
      intro c hc9
      have hc : c < cl := by omega
      obtain ⟨hc1, hc2, hc3, hc4⟩ := hcs c hc
      obtain ⟨e6, e7, e8, e9, e10⟩ := hlr c hc
      have hc1v := (ks_ne (x := kI 0 39973 (fun _ => 0)) (nfr _ _ hc1)).trans hc1
      have hc2v := (ks_ne (x := kI 0 39973 (fun _ => 0)) (nfr _ _ hc2)).trans hc2
      have f8 : (if c < cl then some (cn c) else none) = some (cn c) := if_pos hc
      have f9 : va_rf (some (cn c)) = .ref (cn c) := rfl
      have c1 : (nI c).toNatClampNeg = c := nI_clamp (by omega)
      have z3 := ck_bt s s256 c (by omega)
      have zi := ih (c + 1) (by omega)
      by_cases hbt : nI (s / 2 ^ c % 2) = 1
      · have hb1 : s / 2 ^ c % 2 = 1 := (nI_eq (b := 1) (by omega) (by omega)).mp hbt
        have hct := ck_ct_lt s s256 c (by omega) hb1
        rw [ck_pcl, if_pos hb1, cp_wsl, if_pos hb1] at zi
        refine hB bX4_begin_49 _ _ _ _ _ _ _ kX4_begin_49 ?_
        dsimp only [bX4_begin_49, kx_wp, kx_step, kx_lI, kx_lL, kx_lA, kx_gl, kx_pI, kx_pL, kx_pR, kx_pA, kx_pV, kx_s1, kx_s2, kx_sl, kx_pre, kx_c2, kx_pl, kx_cmp, kx_oF, kx_eqN, kx_nil, kx_c1, kx_ft, kx_aI, kx_aL, kx_aR, kx_ln, Nat.reduceAdd, Option.toList, List.cons_append, List.nil_append, cf4_3, cf4_4, cf4_2, cf4_5, cf4_7, cf4_6, cf4_0]
        repeat (simp only [jW_81, jW_82, jW_83, jW_p81, jW_p82, jW_p83, h7, nI_1, pk_us, pk_un, ne_eq, Nat.reduceEqDiff, not_false_eq_true, jW_n nj, cp4_3, cp4_4, cp4_2, cp4_5, cp4_7, cp4_6, ks_eq, ks_ss, t5, f8, f9, c1, z3, hF2]; try dsimp only [kx_wp, kx_step, kx_lI, kx_lL, kx_lA, kx_gl, kx_pI, kx_pL, kx_pR, kx_pA, kx_pV, kx_s1, kx_s2, kx_sl, kx_pre, kx_c2, kx_pl, kx_cmp, kx_oF, kx_eqN, kx_nil, kx_c1, kx_ft, kx_aI, kx_aL, kx_aR, kx_ln, Nat.reduceAdd, Option.toList, List.cons_append, List.nil_append, cf4_3, cf4_4, cf4_2, cf4_5, cf4_7, cf4_6, cf4_0])
        repeat' apply And.intro
        all_goals try (first | with_reducible assumption | (with_reducible refine ck_nzI ?_; simp; done) | (with_reducible refine ck_nzL ?_; simp; done) | (with_reducible refine vp_in_nI ?_ ?_ <;> first | omega | decide) | (with_reducible refine Nat.le_of_ble_eq_true ?_; rfl) | omega | exact Or.inl trivial | exact Or.inr trivial | exact Or.inl rfl | exact Or.inr rfl | exact vp_in_nI (by omega) (by decide) | exact Nat.le_of_ble_eq_true rfl | (with_reducible refine ck_nzI ?_; decide) | exact (by decide : ¬ (39973 : Int32) < 0))
        · intro zc53
          first | exact absurd rfl zc53 | exact absurd zc53 (by decide) | exact absurd (by decide) zc53 | (exfalso; first | exact absurd ((nI_leI (a := 8) (b := 8) (by omega) (by omega)).mpr (by omega)) zc53 | exact absurd ((nI_leI (a := 8) (b := c) (by omega) (by omega)).mp zc53) (by omega) | exact zc70 hbt | exact hbt zc70 | exact hbt (Decidable.not_not.mp zc70) | exact absurd ((nI_leI (a := 4) (b := ck_ct s c) (by omega) (by omega)).mp zc82) (by omega)) | (exfalso; simp_all; done)
        · intro zc53
          with_reducible first | have ze53 := Int32.not_le.mp zc53 | have ze53 := zc53
          refine hB bX4_begin_56 _ _ _ _ _ _ _ kX4_begin_56 ?_
          dsimp only [bX4_begin_56, kx_wp, kx_step, kx_lI, kx_lL, kx_lA, kx_gl, kx_pI, kx_pL, kx_pR, kx_pA, kx_pV, kx_s1, kx_s2, kx_sl, kx_pre, kx_c2, kx_pl, kx_cmp, kx_oF, kx_eqN, kx_nil, kx_c1, kx_ft, kx_aI, kx_aL, kx_aR, kx_ln, Nat.reduceAdd, Option.toList, List.cons_append, List.nil_append, cf4_3, cf4_4, cf4_2, cf4_5, cf4_7, cf4_6, cf4_0]
          repeat (simp only [jW_81, jW_82, jW_83, jW_p81, jW_p82, jW_p83, h7, nI_1, pk_us, pk_un, ne_eq, Nat.reduceEqDiff, not_false_eq_true, jW_n nj, cp4_3, cp4_4, cp4_2, cp4_5, cp4_7, cp4_6, ks_eq, ks_ss, t5, f8, f9, c1, z3, hF2]; try dsimp only [kx_wp, kx_step, kx_lI, kx_lL, kx_lA, kx_gl, kx_pI, kx_pL, kx_pR, kx_pA, kx_pV, kx_s1, kx_s2, kx_sl, kx_pre, kx_c2, kx_pl, kx_cmp, kx_oF, kx_eqN, kx_nil, kx_c1, kx_ft, kx_aI, kx_aL, kx_aR, kx_ln, Nat.reduceAdd, Option.toList, List.cons_append, List.nil_append, cf4_3, cf4_4, cf4_2, cf4_5, cf4_7, cf4_6, cf4_0])
          repeat' apply And.intro
          all_goals try (first | with_reducible assumption | (with_reducible refine ck_nzI ?_; simp; done) | (with_reducible refine ck_nzL ?_; simp; done) | (with_reducible refine vp_in_nI ?_ ?_ <;> first | omega | decide) | (with_reducible refine Nat.le_of_ble_eq_true ?_; rfl) | omega | exact Or.inl trivial | exact Or.inr trivial | exact Or.inl rfl | exact Or.inr rfl | exact vp_in_nI (by omega) (by decide) | exact Nat.le_of_ble_eq_true rfl | (with_reducible refine ck_nzI ?_; decide) | exact (by decide : ¬ (39973 : Int32) < 0))
          refine hB bX4_begin_63 _ _ _ _ _ _ _ kX4_begin_63 ?_
          dsimp only [bX4_begin_63, kx_wp, kx_step, kx_lI, kx_lL, kx_lA, kx_gl, kx_pI, kx_pL, kx_pR, kx_pA, kx_pV, kx_s1, kx_s2, kx_sl, kx_pre, kx_c2, kx_pl, kx_cmp, kx_oF, kx_eqN, kx_nil, kx_c1, kx_ft, kx_aI, kx_aL, kx_aR, kx_ln, Nat.reduceAdd, Option.toList, List.cons_append, List.nil_append, cf4_3, cf4_4, cf4_2, cf4_5, cf4_7, cf4_6, cf4_0]
          repeat (simp only [jW_81, jW_82, jW_83, jW_p81, jW_p82, jW_p83, h7, nI_1, pk_us, pk_un, ne_eq, Nat.reduceEqDiff, not_false_eq_true, jW_n nj, cp4_3, cp4_4, cp4_2, cp4_5, cp4_7, cp4_6, ks_eq, ks_ss, t5, f8, f9, c1, z3, hF2]; try dsimp only [kx_wp, kx_step, kx_lI, kx_lL, kx_lA, kx_gl, kx_pI, kx_pL, kx_pR, kx_pA, kx_pV, kx_s1, kx_s2, kx_sl, kx_pre, kx_c2, kx_pl, kx_cmp, kx_oF, kx_eqN, kx_nil, kx_c1, kx_ft, kx_aI, kx_aL, kx_aR, kx_ln, Nat.reduceAdd, Option.toList, List.cons_append, List.nil_append, cf4_3, cf4_4, cf4_2, cf4_5, cf4_7, cf4_6, cf4_0])
          repeat' apply And.intro
          all_goals try (first | with_reducible assumption | (with_reducible refine ck_nzI ?_; simp; done) | (with_reducible refine ck_nzL ?_; simp; done) | (with_reducible refine vp_in_nI ?_ ?_ <;> first | omega | decide) | (with_reducible refine Nat.le_of_ble_eq_true ?_; rfl) | omega | exact Or.inl trivial | exact Or.inr trivial | exact Or.inl rfl | exact Or.inr rfl | exact vp_in_nI (by omega) (by decide) | exact Nat.le_of_ble_eq_true rfl | (with_reducible refine ck_nzI ?_; decide) | exact (by decide : ¬ (39973 : Int32) < 0))
          · intro zc70
            first | exact absurd rfl zc70 | exact absurd zc70 (by decide) | exact absurd (by decide) zc70 | (exfalso; first | exact absurd ((nI_leI (a := 8) (b := 8) (by omega) (by omega)).mpr (by omega)) zc53 | exact absurd ((nI_leI (a := 8) (b := c) (by omega) (by omega)).mp zc53) (by omega) | exact zc70 hbt | exact hbt zc70 | exact hbt (Decidable.not_not.mp zc70) | exact absurd ((nI_leI (a := 4) (b := ck_ct s c) (by omega) (by omega)).mp zc82) (by omega)) | (exfalso; simp_all; done)
          · intro zc70
            with_reducible first | have ze70 := Decidable.not_not.mp zc70 | have ze70 := zc70
            refine hB bX4_begin_73 _ _ _ _ _ _ _ kX4_begin_73 ?_
            dsimp only [bX4_begin_73, kx_wp, kx_step, kx_lI, kx_lL, kx_lA, kx_gl, kx_pI, kx_pL, kx_pR, kx_pA, kx_pV, kx_s1, kx_s2, kx_sl, kx_pre, kx_c2, kx_pl, kx_cmp, kx_oF, kx_eqN, kx_nil, kx_c1, kx_ft, kx_aI, kx_aL, kx_aR, kx_ln, Nat.reduceAdd, Option.toList, List.cons_append, List.nil_append, cf4_3, cf4_4, cf4_2, cf4_5, cf4_7, cf4_6, cf4_0]
            repeat (simp only [jW_81, jW_82, jW_83, jW_p81, jW_p82, jW_p83, h7, nI_1, pk_us, pk_un, ne_eq, Nat.reduceEqDiff, not_false_eq_true, jW_n nj, cp4_3, cp4_4, cp4_2, cp4_5, cp4_7, cp4_6, ks_eq, ks_ss, t5, f8, f9, c1, z3, hF2]; try dsimp only [kx_wp, kx_step, kx_lI, kx_lL, kx_lA, kx_gl, kx_pI, kx_pL, kx_pR, kx_pA, kx_pV, kx_s1, kx_s2, kx_sl, kx_pre, kx_c2, kx_pl, kx_cmp, kx_oF, kx_eqN, kx_nil, kx_c1, kx_ft, kx_aI, kx_aL, kx_aR, kx_ln, Nat.reduceAdd, Option.toList, List.cons_append, List.nil_append, cf4_3, cf4_4, cf4_2, cf4_5, cf4_7, cf4_6, cf4_0])
            repeat' apply And.intro
            all_goals try (first | with_reducible assumption | (with_reducible refine ck_nzI ?_; simp; done) | (with_reducible refine ck_nzL ?_; simp; done) | (with_reducible refine vp_in_nI ?_ ?_ <;> first | omega | decide) | (with_reducible refine Nat.le_of_ble_eq_true ?_; rfl) | omega | exact Or.inl trivial | exact Or.inr trivial | exact Or.inl rfl | exact Or.inr rfl | exact vp_in_nI (by omega) (by decide) | exact Nat.le_of_ble_eq_true rfl | (with_reducible refine ck_nzI ?_; decide) | exact (by decide : ¬ (39973 : Int32) < 0))
            · intro zc82
              first | exact absurd rfl zc82 | exact absurd zc82 (by decide) | exact absurd (by decide) zc82 | (exfalso; first | exact absurd ((nI_leI (a := 8) (b := 8) (by omega) (by omega)).mpr (by omega)) zc53 | exact absurd ((nI_leI (a := 8) (b := c) (by omega) (by omega)).mp zc53) (by omega) | exact zc70 hbt | exact hbt zc70 | exact hbt (Decidable.not_not.mp zc70) | exact absurd ((nI_leI (a := 4) (b := ck_ct s c) (by omega) (by omega)).mp zc82) (by omega)) | (exfalso; simp_all; done)
            · intro zc82
              with_reducible first | have ze82 := Int32.not_le.mp zc82 | have ze82 := zc82
              refine hB bX4_begin_85 _ _ _ _ _ _ _ kX4_begin_85 ?_
              dsimp only [bX4_begin_85, kx_wp, kx_step, kx_lI, kx_lL, kx_lA, kx_gl, kx_pI, kx_pL, kx_pR, kx_pA, kx_pV, kx_s1, kx_s2, kx_sl, kx_pre, kx_c2, kx_pl, kx_cmp, kx_oF, kx_eqN, kx_nil, kx_c1, kx_ft, kx_aI, kx_aL, kx_aR, kx_ln, Nat.reduceAdd, Option.toList, List.cons_append, List.nil_append, cf4_3, cf4_4, cf4_2, cf4_5, cf4_7, cf4_6, cf4_0]
              repeat (simp only [jW_81, jW_82, jW_83, jW_p81, jW_p82, jW_p83, h7, nI_1, pk_us, pk_un, ne_eq, Nat.reduceEqDiff, not_false_eq_true, jW_n nj, cp4_3, cp4_4, cp4_2, cp4_5, cp4_7, cp4_6, ks_eq, ks_ss, t5, f8, f9, c1, z3, hF2]; try dsimp only [kx_wp, kx_step, kx_lI, kx_lL, kx_lA, kx_gl, kx_pI, kx_pL, kx_pR, kx_pA, kx_pV, kx_s1, kx_s2, kx_sl, kx_pre, kx_c2, kx_pl, kx_cmp, kx_oF, kx_eqN, kx_nil, kx_c1, kx_ft, kx_aI, kx_aL, kx_aR, kx_ln, Nat.reduceAdd, Option.toList, List.cons_append, List.nil_append, cf4_3, cf4_4, cf4_2, cf4_5, cf4_7, cf4_6, cf4_0])
              repeat' apply And.intro
              all_goals try (first | with_reducible assumption | (with_reducible refine ck_nzI ?_; simp; done) | (with_reducible refine ck_nzL ?_; simp; done) | (with_reducible refine vp_in_nI ?_ ?_ <;> first | omega | decide) | (with_reducible refine Nat.le_of_ble_eq_true ?_; rfl) | omega | exact Or.inl trivial | exact Or.inr trivial | exact Or.inl rfl | exact Or.inr rfl | exact vp_in_nI (by omega) (by decide) | exact Nat.le_of_ble_eq_true rfl | (with_reducible refine ck_nzI ?_; decide) | exact (by decide : ¬ (39973 : Int32) < 0))
              refine hC.1 38 _ _ _ _ _ _ _ 4 _ _ _ _ _ _ _ _ _ _ _ _ lX4_38 (ct_X4_join l G hc1v hc2v ⟨hc3, hc4⟩ (hF2 c) (by omega) e6 e7 e8 ⟨e9, e10⟩ (hF3 c) (by omega) rfl (fun v h => cp_stl_lt hd.2 c v h)) ⟨by decide, rfl⟩ (jW_81) rfl rfl (Nat.le_of_ble_eq_true rfl) (by first | decide | omega) (by decide) (by omega) (by omega) dX4_begin_92 ?_
              rw [cp_Fc_s hb1]
              refine hB bX4_begin_95 _ _ _ _ _ _ _ kX4_begin_95 ?_
              dsimp only [bX4_begin_95, kx_wp, kx_step, kx_lI, kx_lL, kx_lA, kx_gl, kx_pI, kx_pL, kx_pR, kx_pA, kx_pV, kx_s1, kx_s2, kx_sl, kx_pre, kx_c2, kx_pl, kx_cmp, kx_oF, kx_eqN, kx_nil, kx_c1, kx_ft, kx_aI, kx_aL, kx_aR, kx_ln, Nat.reduceAdd, Option.toList, List.cons_append, List.nil_append, cf4_3, cf4_4, cf4_2, cf4_5, cf4_7, cf4_6, cf4_0]
              repeat (simp only [jW_81, jW_82, jW_83, jW_p81, jW_p82, jW_p83, h7, nI_1, pk_us, pk_un, ne_eq, Nat.reduceEqDiff, not_false_eq_true, jW_n nj, cp4_3, cp4_4, cp4_2, cp4_5, cp4_7, cp4_6, ks_eq, ks_ss, t5, f8, f9, c1, z3, hF2]; try dsimp only [kx_wp, kx_step, kx_lI, kx_lL, kx_lA, kx_gl, kx_pI, kx_pL, kx_pR, kx_pA, kx_pV, kx_s1, kx_s2, kx_sl, kx_pre, kx_c2, kx_pl, kx_cmp, kx_oF, kx_eqN, kx_nil, kx_c1, kx_ft, kx_aI, kx_aL, kx_aR, kx_ln, Nat.reduceAdd, Option.toList, List.cons_append, List.nil_append, cf4_3, cf4_4, cf4_2, cf4_5, cf4_7, cf4_6, cf4_0])
              repeat' apply And.intro
              all_goals try (first | with_reducible assumption | (with_reducible refine ck_nzI ?_; simp; done) | (with_reducible refine ck_nzL ?_; simp; done) | (with_reducible refine vp_in_nI ?_ ?_ <;> first | omega | decide) | (with_reducible refine Nat.le_of_ble_eq_true ?_; rfl) | omega | exact Or.inl trivial | exact Or.inr trivial | exact Or.inl rfl | exact Or.inr rfl | exact vp_in_nI (by omega) (by decide) | exact Nat.le_of_ble_eq_true rfl | (with_reducible refine ck_nzI ?_; decide) | exact (by decide : ¬ (39973 : Int32) < 0))
              all_goals exact zi
      · have hb0 : ¬ s / 2 ^ c % 2 = 1 := fun e => hbt (by rw [e]; rfl)
        rw [← cp_Fc_n hb0, ck_pcl, if_neg hb0, cp_wsl, if_neg hb0] at zi
        refine hB bX4_begin_49 _ _ _ _ _ _ _ kX4_begin_49 ?_
        dsimp only [bX4_begin_49, kx_wp, kx_step, kx_lI, kx_lL, kx_lA, kx_gl, kx_pI, kx_pL, kx_pR, kx_pA, kx_pV, kx_s1, kx_s2, kx_sl, kx_pre, kx_c2, kx_pl, kx_cmp, kx_oF, kx_eqN, kx_nil, kx_c1, kx_ft, kx_aI, kx_aL, kx_aR, kx_ln, Nat.reduceAdd, Option.toList, List.cons_append, List.nil_append, cf4_3, cf4_4, cf4_2, cf4_5, cf4_7, cf4_6, cf4_0]
        repeat (simp only [jW_81, jW_82, jW_83, jW_p81, jW_p82, jW_p83, h7, nI_1, pk_us, pk_un, ne_eq, Nat.reduceEqDiff, not_false_eq_true, jW_n nj, cp4_3, cp4_4, cp4_2, cp4_5, cp4_7, cp4_6, ks_eq, ks_ss, t5, f8, f9, c1, z3, hF2]; try dsimp only [kx_wp, kx_step, kx_lI, kx_lL, kx_lA, kx_gl, kx_pI, kx_pL, kx_pR, kx_pA, kx_pV, kx_s1, kx_s2, kx_sl, kx_pre, kx_c2, kx_pl, kx_cmp, kx_oF, kx_eqN, kx_nil, kx_c1, kx_ft, kx_aI, kx_aL, kx_aR, kx_ln, Nat.reduceAdd, Option.toList, List.cons_append, List.nil_append, cf4_3, cf4_4, cf4_2, cf4_5, cf4_7, cf4_6, cf4_0])
        repeat' apply And.intro
        all_goals try (first | with_reducible assumption | (with_reducible refine ck_nzI ?_; simp; done) | (with_reducible refine ck_nzL ?_; simp; done) | (with_reducible refine vp_in_nI ?_ ?_ <;> first | omega | decide) | (with_reducible refine Nat.le_of_ble_eq_true ?_; rfl) | omega | exact Or.inl trivial | exact Or.inr trivial | exact Or.inl rfl | exact Or.inr rfl | exact vp_in_nI (by omega) (by decide) | exact Nat.le_of_ble_eq_true rfl | (with_reducible refine ck_nzI ?_; decide) | exact (by decide : ¬ (39973 : Int32) < 0))
        · intro zc53
          first | exact absurd rfl zc53 | exact absurd zc53 (by decide) | exact absurd (by decide) zc53 | (exfalso; first | exact absurd ((nI_leI (a := 8) (b := 8) (by omega) (by omega)).mpr (by omega)) zc53 | exact absurd ((nI_leI (a := 8) (b := c) (by omega) (by omega)).mp zc53) (by omega) | exact zc70 hbt | exact hbt zc70 | exact hbt (Decidable.not_not.mp zc70) | exact absurd ((nI_leI (a := 4) (b := ck_ct s c) (by omega) (by omega)).mp zc82) (by omega)) | (exfalso; simp_all; done)
        · intro zc53
          with_reducible first | have ze53 := Int32.not_le.mp zc53 | have ze53 := zc53
          refine hB bX4_begin_56 _ _ _ _ _ _ _ kX4_begin_56 ?_
          dsimp only [bX4_begin_56, kx_wp, kx_step, kx_lI, kx_lL, kx_lA, kx_gl, kx_pI, kx_pL, kx_pR, kx_pA, kx_pV, kx_s1, kx_s2, kx_sl, kx_pre, kx_c2, kx_pl, kx_cmp, kx_oF, kx_eqN, kx_nil, kx_c1, kx_ft, kx_aI, kx_aL, kx_aR, kx_ln, Nat.reduceAdd, Option.toList, List.cons_append, List.nil_append, cf4_3, cf4_4, cf4_2, cf4_5, cf4_7, cf4_6, cf4_0]
          repeat (simp only [jW_81, jW_82, jW_83, jW_p81, jW_p82, jW_p83, h7, nI_1, pk_us, pk_un, ne_eq, Nat.reduceEqDiff, not_false_eq_true, jW_n nj, cp4_3, cp4_4, cp4_2, cp4_5, cp4_7, cp4_6, ks_eq, ks_ss, t5, f8, f9, c1, z3, hF2]; try dsimp only [kx_wp, kx_step, kx_lI, kx_lL, kx_lA, kx_gl, kx_pI, kx_pL, kx_pR, kx_pA, kx_pV, kx_s1, kx_s2, kx_sl, kx_pre, kx_c2, kx_pl, kx_cmp, kx_oF, kx_eqN, kx_nil, kx_c1, kx_ft, kx_aI, kx_aL, kx_aR, kx_ln, Nat.reduceAdd, Option.toList, List.cons_append, List.nil_append, cf4_3, cf4_4, cf4_2, cf4_5, cf4_7, cf4_6, cf4_0])
          repeat' apply And.intro
          all_goals try (first | with_reducible assumption | (with_reducible refine ck_nzI ?_; simp; done) | (with_reducible refine ck_nzL ?_; simp; done) | (with_reducible refine vp_in_nI ?_ ?_ <;> first | omega | decide) | (with_reducible refine Nat.le_of_ble_eq_true ?_; rfl) | omega | exact Or.inl trivial | exact Or.inr trivial | exact Or.inl rfl | exact Or.inr rfl | exact vp_in_nI (by omega) (by decide) | exact Nat.le_of_ble_eq_true rfl | (with_reducible refine ck_nzI ?_; decide) | exact (by decide : ¬ (39973 : Int32) < 0))
          refine hB bX4_begin_63 _ _ _ _ _ _ _ kX4_begin_63 ?_
          dsimp only [bX4_begin_63, kx_wp, kx_step, kx_lI, kx_lL, kx_lA, kx_gl, kx_pI, kx_pL, kx_pR, kx_pA, kx_pV, kx_s1, kx_s2, kx_sl, kx_pre, kx_c2, kx_pl, kx_cmp, kx_oF, kx_eqN, kx_nil, kx_c1, kx_ft, kx_aI, kx_aL, kx_aR, kx_ln, Nat.reduceAdd, Option.toList, List.cons_append, List.nil_append, cf4_3, cf4_4, cf4_2, cf4_5, cf4_7, cf4_6, cf4_0]
          repeat (simp only [jW_81, jW_82, jW_83, jW_p81, jW_p82, jW_p83, h7, nI_1, pk_us, pk_un, ne_eq, Nat.reduceEqDiff, not_false_eq_true, jW_n nj, cp4_3, cp4_4, cp4_2, cp4_5, cp4_7, cp4_6, ks_eq, ks_ss, t5, f8, f9, c1, z3, hF2]; try dsimp only [kx_wp, kx_step, kx_lI, kx_lL, kx_lA, kx_gl, kx_pI, kx_pL, kx_pR, kx_pA, kx_pV, kx_s1, kx_s2, kx_sl, kx_pre, kx_c2, kx_pl, kx_cmp, kx_oF, kx_eqN, kx_nil, kx_c1, kx_ft, kx_aI, kx_aL, kx_aR, kx_ln, Nat.reduceAdd, Option.toList, List.cons_append, List.nil_append, cf4_3, cf4_4, cf4_2, cf4_5, cf4_7, cf4_6, cf4_0])
          repeat' apply And.intro
          all_goals try (first | with_reducible assumption | (with_reducible refine ck_nzI ?_; simp; done) | (with_reducible refine ck_nzL ?_; simp; done) | (with_reducible refine vp_in_nI ?_ ?_ <;> first | omega | decide) | (with_reducible refine Nat.le_of_ble_eq_true ?_; rfl) | omega | exact Or.inl trivial | exact Or.inr trivial | exact Or.inl rfl | exact Or.inr rfl | exact vp_in_nI (by omega) (by decide) | exact Nat.le_of_ble_eq_true rfl | (with_reducible refine ck_nzI ?_; decide) | exact (by decide : ¬ (39973 : Int32) < 0))
          · intro zc70
            have ze70 := zc70
            refine hB bX4_begin_95 _ _ _ _ _ _ _ kX4_begin_95 ?_
            dsimp only [bX4_begin_95, kx_wp, kx_step, kx_lI, kx_lL, kx_lA, kx_gl, kx_pI, kx_pL, kx_pR, kx_pA, kx_pV, kx_s1, kx_s2, kx_sl, kx_pre, kx_c2, kx_pl, kx_cmp, kx_oF, kx_eqN, kx_nil, kx_c1, kx_ft, kx_aI, kx_aL, kx_aR, kx_ln, Nat.reduceAdd, Option.toList, List.cons_append, List.nil_append, cf4_3, cf4_4, cf4_2, cf4_5, cf4_7, cf4_6, cf4_0]
            repeat (simp only [jW_81, jW_82, jW_83, jW_p81, jW_p82, jW_p83, h7, nI_1, pk_us, pk_un, ne_eq, Nat.reduceEqDiff, not_false_eq_true, jW_n nj, cp4_3, cp4_4, cp4_2, cp4_5, cp4_7, cp4_6, ks_eq, ks_ss, t5, f8, f9, c1, z3, hF2]; try dsimp only [kx_wp, kx_step, kx_lI, kx_lL, kx_lA, kx_gl, kx_pI, kx_pL, kx_pR, kx_pA, kx_pV, kx_s1, kx_s2, kx_sl, kx_pre, kx_c2, kx_pl, kx_cmp, kx_oF, kx_eqN, kx_nil, kx_c1, kx_ft, kx_aI, kx_aL, kx_aR, kx_ln, Nat.reduceAdd, Option.toList, List.cons_append, List.nil_append, cf4_3, cf4_4, cf4_2, cf4_5, cf4_7, cf4_6, cf4_0])
            repeat' apply And.intro
            all_goals try (first | with_reducible assumption | (with_reducible refine ck_nzI ?_; simp; done) | (with_reducible refine ck_nzL ?_; simp; done) | (with_reducible refine vp_in_nI ?_ ?_ <;> first | omega | decide) | (with_reducible refine Nat.le_of_ble_eq_true ?_; rfl) | omega | exact Or.inl trivial | exact Or.inr trivial | exact Or.inl rfl | exact Or.inr rfl | exact vp_in_nI (by omega) (by decide) | exact Nat.le_of_ble_eq_true rfl | (with_reducible refine ck_nzI ?_; decide) | exact (by decide : ¬ (39973 : Int32) < 0))
            all_goals exact zi
          · intro zc70
            first | exact absurd rfl zc70 | exact absurd zc70 (by decide) | exact absurd (by decide) zc70 | (exfalso; first | exact absurd ((nI_leI (a := 8) (b := 8) (by omega) (by omega)).mpr (by omega)) zc53 | exact absurd ((nI_leI (a := 8) (b := c) (by omega) (by omega)).mp zc53) (by omega) | exact zc70 hbt | exact hbt zc70 | exact hbt (Decidable.not_not.mp zc70) | exact absurd ((nI_leI (a := 4) (b := ck_ct s c) (by omega) (by omega)).mp zc82) (by omega)) | (exfalso; simp_all; done)
  refine hB bX4_begin_0 _ _ _ _ _ _ _ kX4_begin_0 ?_
  dsimp only [bX4_begin_0, kx_wp, kx_step, kx_lI, kx_lL, kx_lA, kx_gl, kx_pI, kx_pL, kx_pR, kx_pA, kx_pV, kx_s1, kx_s2, kx_sl, kx_pre, kx_c2, kx_pl, kx_cmp, kx_oF, kx_eqN, kx_nil, kx_c1, kx_ft, kx_aI, kx_aL, kx_aR, kx_ln, Nat.reduceAdd, Option.toList, List.cons_append, List.nil_append, cf4_3, cf4_4, cf4_2, cf4_5, cf4_7, cf4_6, cf4_0]
  repeat (simp only [jW_81, jW_82, jW_83, jW_p81, jW_p82, jW_p83, h7, nI_1, pk_us, pk_un, ne_eq, Nat.reduceEqDiff, not_false_eq_true, jW_n nj, cp4_3, cp4_4, cp4_2, cp4_5, cp4_7, cp4_6, ks_eq, ks_ss]; try dsimp only [kx_wp, kx_step, kx_lI, kx_lL, kx_lA, kx_gl, kx_pI, kx_pL, kx_pR, kx_pA, kx_pV, kx_s1, kx_s2, kx_sl, kx_pre, kx_c2, kx_pl, kx_cmp, kx_oF, kx_eqN, kx_nil, kx_c1, kx_ft, kx_aI, kx_aL, kx_aR, kx_ln, Nat.reduceAdd, Option.toList, List.cons_append, List.nil_append, cf4_3, cf4_4, cf4_2, cf4_5, cf4_7, cf4_6, cf4_0])
  repeat' apply And.intro
  all_goals try (first | with_reducible assumption | (with_reducible refine ck_nzI ?_; simp; done) | (with_reducible refine ck_nzL ?_; simp; done) | (with_reducible refine vp_in_nI ?_ ?_ <;> first | omega | decide) | (with_reducible refine Nat.le_of_ble_eq_true ?_; rfl) | omega | exact Or.inl trivial | exact Or.inr trivial | exact Or.inl rfl | exact Or.inr rfl | exact vp_in_nI (by omega) (by decide) | exact Nat.le_of_ble_eq_true rfl | (with_reducible refine ck_nzI ?_; decide) | exact (by decide : ¬ (39973 : Int32) < 0))
  refine hB bX4_begin_38 _ _ _ _ _ _ _ kX4_begin_38 ?_
  dsimp only [bX4_begin_38, kx_wp, kx_step, kx_lI, kx_lL, kx_lA, kx_gl, kx_pI, kx_pL, kx_pR, kx_pA, kx_pV, kx_s1, kx_s2, kx_sl, kx_pre, kx_c2, kx_pl, kx_cmp, kx_oF, kx_eqN, kx_nil, kx_c1, kx_ft, kx_aI, kx_aL, kx_aR, kx_ln, Nat.reduceAdd, Option.toList, List.cons_append, List.nil_append, cf4_3, cf4_4, cf4_2, cf4_5, cf4_7, cf4_6, cf4_0]
  repeat (simp only [jW_81, jW_82, jW_83, jW_p81, jW_p82, jW_p83, h7, nI_1, pk_us, pk_un, ne_eq, Nat.reduceEqDiff, not_false_eq_true, jW_n nj, cp4_3, cp4_4, cp4_2, cp4_5, cp4_7, cp4_6, ks_eq, ks_ss]; try dsimp only [kx_wp, kx_step, kx_lI, kx_lL, kx_lA, kx_gl, kx_pI, kx_pL, kx_pR, kx_pA, kx_pV, kx_s1, kx_s2, kx_sl, kx_pre, kx_c2, kx_pl, kx_cmp, kx_oF, kx_eqN, kx_nil, kx_c1, kx_ft, kx_aI, kx_aL, kx_aR, kx_ln, Nat.reduceAdd, Option.toList, List.cons_append, List.nil_append, cf4_3, cf4_4, cf4_2, cf4_5, cf4_7, cf4_6, cf4_0])
  repeat' apply And.intro
  all_goals try (first | with_reducible assumption | (with_reducible refine ck_nzI ?_; simp; done) | (with_reducible refine ck_nzL ?_; simp; done) | (with_reducible refine vp_in_nI ?_ ?_ <;> first | omega | decide) | (with_reducible refine Nat.le_of_ble_eq_true ?_; rfl) | omega | exact Or.inl trivial | exact Or.inr trivial | exact Or.inl rfl | exact Or.inr rfl | exact vp_in_nI (by omega) (by decide) | exact Nat.le_of_ble_eq_true rfl | (with_reducible refine ck_nzI ?_; decide) | exact (by decide : ¬ (39973 : Int32) < 0))
  refine hB bX4_begin_46 _ _ _ _ _ _ _ kX4_begin_46 ?_
  dsimp only [bX4_begin_46, kx_wp, kx_step, kx_lI, kx_lL, kx_lA, kx_gl, kx_pI, kx_pL, kx_pR, kx_pA, kx_pV, kx_s1, kx_s2, kx_sl, kx_pre, kx_c2, kx_pl, kx_cmp, kx_oF, kx_eqN, kx_nil, kx_c1, kx_ft, kx_aI, kx_aL, kx_aR, kx_ln, Nat.reduceAdd, Option.toList, List.cons_append, List.nil_append, cf4_3, cf4_4, cf4_2, cf4_5, cf4_7, cf4_6, cf4_0]
  repeat (simp only [jW_81, jW_82, jW_83, jW_p81, jW_p82, jW_p83, h7, nI_1, pk_us, pk_un, ne_eq, Nat.reduceEqDiff, not_false_eq_true, jW_n nj, cp4_3, cp4_4, cp4_2, cp4_5, cp4_7, cp4_6, ks_eq, ks_ss]; try dsimp only [kx_wp, kx_step, kx_lI, kx_lL, kx_lA, kx_gl, kx_pI, kx_pL, kx_pR, kx_pA, kx_pV, kx_s1, kx_s2, kx_sl, kx_pre, kx_c2, kx_pl, kx_cmp, kx_oF, kx_eqN, kx_nil, kx_c1, kx_ft, kx_aI, kx_aL, kx_aR, kx_ln, Nat.reduceAdd, Option.toList, List.cons_append, List.nil_append, cf4_3, cf4_4, cf4_2, cf4_5, cf4_7, cf4_6, cf4_0])
  repeat' apply And.intro
  all_goals try (first | with_reducible assumption | (with_reducible refine ck_nzI ?_; simp; done) | (with_reducible refine ck_nzL ?_; simp; done) | (with_reducible refine vp_in_nI ?_ ?_ <;> first | omega | decide) | (with_reducible refine Nat.le_of_ble_eq_true ?_; rfl) | omega | exact Or.inl trivial | exact Or.inr trivial | exact Or.inl rfl | exact Or.inr rfl | exact vp_in_nI (by omega) (by decide) | exact Nat.le_of_ble_eq_true rfl | (with_reducible refine ck_nzI ?_; decide) | exact (by decide : ¬ (39973 : Int32) < 0))
  have zi := loop49 cl 0 (by omega)
  rw [cp_Fc_0] at zi
  all_goals exact zi


theorem ck_dig0 (x d j : Nat) (hj : j < 4) (h : x / 11 ^ 0 % 11 + d < 11) : (x + d * 11 ^ 0) / 11 ^ j % 11 = if j = 0 then x / 11 ^ 0 % 11 + d else x / 11 ^ j % 11 := by
  match j, hj with
  | 0, _ => simp only [↓reduceIte, Nat.reducePow] at *; omega
  | 1, _ => simp only [Nat.reducePow, Nat.reduceEqDiff, ↓reduceIte] at *; omega
  | 2, _ => simp only [Nat.reducePow, Nat.reduceEqDiff, ↓reduceIte] at *; omega
  | 3, _ => simp only [Nat.reducePow, Nat.reduceEqDiff, ↓reduceIte] at *; omega
theorem ck_dig1 (x d j : Nat) (hj : j < 4) (h : x / 11 ^ 1 % 11 + d < 11) : (x + d * 11 ^ 1) / 11 ^ j % 11 = if j = 1 then x / 11 ^ 1 % 11 + d else x / 11 ^ j % 11 := by
  match j, hj with
  | 0, _ => simp only [Nat.reducePow, Nat.reduceEqDiff, ↓reduceIte] at *; omega
  | 1, _ => simp only [↓reduceIte, Nat.reducePow] at *; omega
  | 2, _ => simp only [Nat.reducePow, Nat.reduceEqDiff, ↓reduceIte] at *; omega
  | 3, _ => simp only [Nat.reducePow, Nat.reduceEqDiff, ↓reduceIte] at *; omega
theorem ck_dig2 (x d j : Nat) (hj : j < 4) (h : x / 11 ^ 2 % 11 + d < 11) : (x + d * 11 ^ 2) / 11 ^ j % 11 = if j = 2 then x / 11 ^ 2 % 11 + d else x / 11 ^ j % 11 := by
  match j, hj with
  | 0, _ => simp only [Nat.reducePow, Nat.reduceEqDiff, ↓reduceIte] at *; omega
  | 1, _ => simp only [Nat.reducePow, Nat.reduceEqDiff, ↓reduceIte] at *; omega
  | 2, _ => simp only [↓reduceIte, Nat.reducePow] at *; omega
  | 3, _ => simp only [Nat.reducePow, Nat.reduceEqDiff, ↓reduceIte] at *; omega
theorem ck_dig3 (x d j : Nat) (hj : j < 4) (h : x / 11 ^ 3 % 11 + d < 11) : (x + d * 11 ^ 3) / 11 ^ j % 11 = if j = 3 then x / 11 ^ 3 % 11 + d else x / 11 ^ j % 11 := by
  match j, hj with
  | 0, _ => simp only [Nat.reducePow, Nat.reduceEqDiff, ↓reduceIte] at *; omega
  | 1, _ => simp only [Nat.reducePow, Nat.reduceEqDiff, ↓reduceIte] at *; omega
  | 2, _ => simp only [Nat.reducePow, Nat.reduceEqDiff, ↓reduceIte] at *; omega
  | 3, _ => simp only [↓reduceIte, Nat.reducePow] at *; omega
theorem ck_dig (x d i j : Nat) (hi : i < 4) (hj : j < 4) (h : x / 11 ^ i % 11 + d < 11) : (x + d * 11 ^ i) / 11 ^ j % 11 = if j = i then x / 11 ^ i % 11 + d else x / 11 ^ j % 11 := by
  match i, hi with
  | 0, _ => exact ck_dig0 x d j hj h
  | 1, _ => exact ck_dig1 x d j hj h
  | 2, _ => exact ck_dig2 x d j hj h
  | 3, _ => exact ck_dig3 x d j hj h
theorem ck_wd_d (s w t : Nat) (ht : t ≤ 9) : ∀ i, i ≤ 4 → (∀ j, j < i → s / 11 ^ j % 11 ≤ t) → ∀ j, j < 4 → ck_wd s w t i / 11 ^ j % 11 = if j < i ∧ w / 2 ^ j % 2 = 1 then t + 1 else s / 11 ^ j % 11
  | 0, _, _, j, _ => by rw [if_neg (by omega)]; rfl
  | i + 1, hi, h, j, hj => by
    have ih := ck_wd_d s w t ht i (by omega) (fun j hj => h j (by omega))
    have hl := h i (by omega)
    unfold ck_wd
    by_cases hb : w / 2 ^ i % 2 = 1
    · rw [if_pos hb]
      have e := ih i (by omega)
      rw [if_neg (by omega)] at e
      rw [ck_dig _ _ i j (by omega) hj (by omega), e]
      by_cases hji : j = i
      · subst hji
        rw [if_pos rfl, if_pos ⟨by omega, hb⟩]
        omega
      · rw [if_neg hji, ih j hj]
        by_cases hlt : j < i
        · have a : (j < i ∧ w / 2 ^ j % 2 = 1) ↔ (j < i + 1 ∧ w / 2 ^ j % 2 = 1) := ⟨fun q => ⟨by omega, q.2⟩, fun q => ⟨hlt, q.2⟩⟩
          rw [ite_congr (propext a) (fun _ => rfl) (fun _ => rfl)]
        · rw [if_neg (by omega), if_neg (by omega)]
    · rw [if_neg hb, ih j hj]
      by_cases hji : j = i
      · subst hji
        rw [if_neg (by omega), if_neg (fun q => hb q.2)]
      · have a : (j < i ∧ w / 2 ^ j % 2 = 1) ↔ (j < i + 1 ∧ w / 2 ^ j % 2 = 1) := ⟨fun q => ⟨by omega, q.2⟩, fun q => ⟨by omega, q.2⟩⟩
        rw [ite_congr (propext a) (fun _ => rfl) (fun _ => rfl)]
/-- a number of four digits at base 11 is small -/
theorem ck_dlt (x : Nat) (h : x < 11 ^ 5) (h4 : x / 11 ^ 4 = 0) : x < 14641 := by
  simp only [Nat.reducePow] at *; omega
theorem ck_add_lt (x d i pk : Nat) (hi : i < pk) (hpk : pk ≤ 4) (hx : x < 11 ^ pk) (h : x / 11 ^ i % 11 + d < 11) : x + d * 11 ^ i < 11 ^ pk := by
  have a : (i = 0 ∨ i = 1 ∨ i = 2 ∨ i = 3) := by omega
  have b : (pk = 1 ∨ pk = 2 ∨ pk = 3 ∨ pk = 4) := by omega
  rcases b with rfl | rfl | rfl | rfl <;> rcases a with rfl | rfl | rfl | rfl <;> simp only [Nat.reducePow] at * <;> omega
theorem ck_wd_lt (s w t pk : Nat) (ht : t ≤ 9) (hpk : pk ≤ 4) (hs : s < 11 ^ pk) (h : ∀ j, j < pk → s / 11 ^ j % 11 ≤ t) : ∀ i, i ≤ pk → ck_wd s w t i < 11 ^ pk
  | 0, _ => hs
  | i + 1, hi => by
    have ih := ck_wd_lt s w t pk ht hpk hs h i (by omega)
    have e := ck_wd_d s w t ht i (by omega) (fun j hj => h j (by omega)) i (by omega)
    rw [if_neg (by omega)] at e
    have hl := h i (by omega)
    unfold ck_wd
    split
    · exact ck_add_lt _ _ i pk (by omega) hpk ih (by omega)
    · exact ih
/-- a state of the plan at time t -/
def ck_vs (pk s t : Nat) : Prop := s < 11 ^ pk ∧ ∀ j, j < pk → s / 11 ^ j % 11 ≤ t
theorem ck_vs_wd {pk s t : Nat} (w : Nat) (hpk : pk ≤ 4) (ht : t ≤ 9) (h : ck_vs pk s t) : ck_vs pk (ck_wd s w t pk) (t + 1) := by
  refine ⟨ck_wd_lt s w t pk ht hpk h.1 h.2 pk (Nat.le_refl _), fun j hj => ?_⟩
  rw [ck_wd_d s w t ht pk hpk h.2 j (by omega)]
  have := h.2 j hj
  split <;> omega
theorem ck_vs_lt {pk s t : Nat} (hpk : pk ≤ 4) (h : ck_vs pk s t) : s < 14641 := Nat.lt_of_lt_of_le h.1 (Nat.pow_le_pow_right (n := 11) (by decide) hpk)

def bX11_windsTo_0 : List kx_O := [(.iload_n 1, 1, 0, 0, .null), (.istore 4, 4, 0, 0, .null), (.iconst 0, 0, 0, 0, .int 0), (.istore 5, 5, 0, 0, .null)]
theorem kX11_windsTo_0 : kx_oks kxL_X11 false cX11_windsTo 0 bX11_windsTo_0 = true := by decide +kernel
def bX11_windsTo_6 : List kx_O := [(.iload 5, 5, 0, 0, .null), (.aload_n 0, 0, 0, 0, .null), (.getfield 501, 11, 68, 0, .null), (.if_icmp .ge 69, 81, 0, 0, .null)]
theorem kX11_windsTo_6 : kx_oks kxL_X11 false cX11_windsTo 6 bX11_windsTo_6 = true := by decide +kernel
def bX11_windsTo_15 : List kx_O := [(.iload_n 2, 2, 0, 0, .null), (.iload 5, 5, 0, 0, .null), (.ishr, 0, 0, 0, .null), (.iconst 1, 0, 0, 0, .int 1), (.iand, 0, 0, 0, .null), (.iconst 1, 0, 0, 0, .int 1), (.if_icmp .ne 53, 75, 0, 0, .null)]
theorem kX11_windsTo_15 : kx_oks kxL_X11 false cX11_windsTo 15 bX11_windsTo_15 = true := by decide +kernel
def bX11_windsTo_25 : List kx_O := [(.iload 4, 4, 0, 0, .null), (.iload_n 3, 3, 0, 0, .null), (.iconst 1, 0, 0, 0, .int 1), (.iadd, 0, 0, 0, .null), (.iload_n 1, 1, 0, 0, .null), (.iload 5, 5, 0, 0, .null)]
theorem kX11_windsTo_25 : kx_oks kxL_X11 false cX11_windsTo 25 bX11_windsTo_25 = true := by decide +kernel
def bX11_windsTo_36 : List kx_O := [(.isub, 0, 0, 0, .null), (.iload 5, 5, 0, 0, .null), (.ifCond .ne 7, 46, 0, 0, .null)]
theorem kX11_windsTo_36 : kx_oks kxL_X11 false cX11_windsTo 36 bX11_windsTo_36 = true := by decide +kernel
def bX11_windsTo_42 : List kx_O := [(.iconst 1, 0, 0, 0, .int 1), (.goto 28, 71, 0, 0, .null)]
theorem kX11_windsTo_42 : kx_oks kxL_X11 false cX11_windsTo 42 bX11_windsTo_42 = true := by decide +kernel
def bX11_windsTo_46 : List kx_O := [(.iload 5, 5, 0, 0, .null), (.iconst 1, 0, 0, 0, .int 1), (.if_icmp .ne 8, 57, 0, 0, .null)]
theorem kX11_windsTo_46 : kx_oks kxL_X11 false cX11_windsTo 46 bX11_windsTo_46 = true := by decide +kernel
def bX11_windsTo_52 : List kx_O := [(.bipush 11, 0, 0, 0, .int 11), (.goto 17, 71, 0, 0, .null)]
theorem kX11_windsTo_52 : kx_oks kxL_X11 false cX11_windsTo 52 bX11_windsTo_52 = true := by decide +kernel
def bX11_windsTo_57 : List kx_O := [(.iload 5, 5, 0, 0, .null), (.iconst 2, 0, 0, 0, .int 2), (.if_icmp .ne 8, 68, 0, 0, .null)]
theorem kX11_windsTo_57 : kx_oks kxL_X11 false cX11_windsTo 57 bX11_windsTo_57 = true := by decide +kernel
def bX11_windsTo_63 : List kx_O := [(.bipush 121, 0, 0, 0, .int 121), (.goto 6, 71, 0, 0, .null)]
theorem kX11_windsTo_63 : kx_oks kxL_X11 false cX11_windsTo 63 bX11_windsTo_63 = true := by decide +kernel
def bX11_windsTo_68 : List kx_O := [(.sipush 1331, 0, 0, 0, .int 1331)]
theorem kX11_windsTo_68 : kx_oks kxL_X11 false cX11_windsTo 68 bX11_windsTo_68 = true := by decide +kernel
def bX11_windsTo_71 : List kx_O := [(.imul, 0, 0, 0, .null), (.iadd, 0, 0, 0, .null), (.istore 4, 4, 0, 0, .null)]
theorem kX11_windsTo_71 : kx_oks kxL_X11 false cX11_windsTo 71 bX11_windsTo_71 = true := by decide +kernel
def bX11_windsTo_75 : List kx_O := [(.iinc 5 1, 5, 0, 0, .int 1), (.goto (-72), 6, 0, 0, .null)]
theorem kX11_windsTo_75 : kx_oks kxL_X11 false cX11_windsTo 75 bX11_windsTo_75 = true := by decide +kernel
def bX11_windsTo_81 : List kx_O := [(.iload 4, 4, 0, 0, .null), (.ireturn, 0, 0, 0, .null)]
theorem kX11_windsTo_81 : kx_oks kxL_X11 false cX11_windsTo 81 bX11_windsTo_81 = true := by decide +kernel
theorem dX11_windsTo_33 : decode cX11_windsTo 33 = .ok (.invokestatic 504, 3) := by decide +kernel
set_option maxRecDepth 100000 in
set_option maxHeartbeats 4000000 in
theorem ct_X11_windsTo (l : Launch) (G : kx_G) {M : Nat → Int32} {A : Nat → Nat → Int32} {L : Nat → Nat → Int64} {R : kx_P} {sz : Nat} {s w t pk : Nat} (h68 : M 68 = nI pk) (hpk : pk ≤ 4) (hs : s < 2 ^ 30) (hw : w < 256) (ht : t ≤ 9) (hla : ∀ j, j < pk → s / 11 ^ j % 11 ≤ t)  : kx_M l G sX11_windsTo 2 0 0 [.ref 93, .int (nI s), .int (nI w), .int (nI t)] (mW M A L R) sz (some (.int (nI (ck_wd s w t pk)))) (mW M A L R) sz := by
  refine kx_mk kx_tab kxLok_X11 (ini := false) [some (.ref 93), some (.int (nI s)), some (.int (nI w)), some (.int (nI t)), none, none] ⟨by decide, rfl, by decide, by decide⟩ (⟨_, rfl⟩) rfl rfl (fun g hB hC => ?_)
  have loop6 : ∀ (n9 i : Nat), i + n9 = pk → g 6 [some (.ref 93), some (.int (nI s)), some (.int (nI w)), some (.int (nI t)), some (.int (nI (ck_wd s w t (i)))), some (.int (nI (i)))] [] (mW M A L R) sz 0 0 := by
    intro n9
    induction n9 with
    | zero =>
      intro i hi
      obtain rfl : pk = i := by omega
      refine hB bX11_windsTo_6 _ _ _ _ _ _ _ kX11_windsTo_6 ?_
      dsimp only [bX11_windsTo_6, kx_wp, kx_step, kx_lI, kx_lL, kx_lA, kx_gl, kx_pI, kx_pL, kx_pR, kx_pA, kx_pV, kx_s1, kx_s2, kx_sl, kx_pre, kx_c2, kx_pl, kx_cmp, kx_oF, kx_eqN, kx_nil, kx_c1, kx_ft, kx_aI, kx_aL, kx_aR, kx_ln, Nat.reduceAdd, Option.toList, List.cons_append, List.nil_append, mW_o, mf_68]
      repeat (simp only [h68, nI_1]; try dsimp only [kx_wp, kx_step, kx_lI, kx_lL, kx_lA, kx_gl, kx_pI, kx_pL, kx_pR, kx_pA, kx_pV, kx_s1, kx_s2, kx_sl, kx_pre, kx_c2, kx_pl, kx_cmp, kx_oF, kx_eqN, kx_nil, kx_c1, kx_ft, kx_aI, kx_aL, kx_aR, kx_ln, Nat.reduceAdd, Option.toList, List.cons_append, List.nil_append, mW_o, mf_68])
      repeat' apply And.intro
      all_goals try (first | with_reducible assumption | (with_reducible refine ck_nzI ?_; simp; done) | (with_reducible refine ck_nzL ?_; simp; done) | (with_reducible refine vp_in_nI ?_ ?_ <;> first | omega | decide) | (with_reducible refine Nat.le_of_ble_eq_true ?_; rfl) | omega)
      · intro zc12
        with_reducible first | have ze12 := Int32.not_lt.mpr zc12 | have ze12 := zc12
        refine hB bX11_windsTo_81 _ _ _ _ _ _ _ kX11_windsTo_81 ?_
        dsimp only [bX11_windsTo_81, kx_wp, kx_step, kx_lI, kx_lL, kx_lA, kx_gl, kx_pI, kx_pL, kx_pR, kx_pA, kx_pV, kx_s1, kx_s2, kx_sl, kx_pre, kx_c2, kx_pl, kx_cmp, kx_oF, kx_eqN, kx_nil, kx_c1, kx_ft, kx_aI, kx_aL, kx_aR, kx_ln, Nat.reduceAdd, Option.toList, List.cons_append, List.nil_append, mW_o, mf_68]
        repeat (simp only [h68, nI_1]; try dsimp only [kx_wp, kx_step, kx_lI, kx_lL, kx_lA, kx_gl, kx_pI, kx_pL, kx_pR, kx_pA, kx_pV, kx_s1, kx_s2, kx_sl, kx_pre, kx_c2, kx_pl, kx_cmp, kx_oF, kx_eqN, kx_nil, kx_c1, kx_ft, kx_aI, kx_aL, kx_aR, kx_ln, Nat.reduceAdd, Option.toList, List.cons_append, List.nil_append, mW_o, mf_68])
        all_goals (repeat' apply And.intro)
        all_goals ((try clear hB hC); first | exact True.intro | with_reducible rfl | with_reducible assumption | (with_reducible refine vp_in_nI ?_ ?_ <;> first | omega | decide) | exact Nat.le_of_ble_eq_true rfl | (with_reducible refine ck_nzI ?_; simp; done) | (with_reducible refine ck_nzL ?_; simp; done) | (simp only [pk_us, pk_uLs, zc12, ze12, ↓reduceIte, not_true_eq_false, not_false_eq_true]; done) | (simp only [zc12, ze12, ↓reduceIte, not_true_eq_false, not_false_eq_true]; with_reducible rfl) | skip)
      · intro zc12
        first | exact absurd rfl zc12 | exact absurd zc12 (by decide) | exact absurd (by decide) zc12 | (exfalso; first | exact absurd zc12 (by first | (simp only [nI_leI (show pk < 2 ^ 31 by omega) (show pk < 2 ^ 31 by omega)]; omega) | (simp only [nI_leI (show pk < 2 ^ 31 by omega) (show pk < 2 ^ 31 by omega), Decidable.not_not]; omega))) | (exfalso; simp_all; done)
    | succ n9 ih =>
      intro i hi
      have hb := ck_bt w hw i (by omega)
      have hl := hla i (by omega)
      have zi := ih (i + 1) (by omega)
      by_cases hb1 : w / 2 ^ i % 2 = 1
      · rcases (show i = 0 ∨ i = 1 ∨ i = 2 ∨ i = 3 by omega) with rfl | rfl | rfl | rfl
        · have zs : nI (t + 1) - nI (s / 11 ^ 0 % 11) = nI (t + 1 - s / 11 ^ 0 % 11) := pk_sub (by omega)
          have zw : ck_wd s w t (0 + 1) = ck_wd s w t 0 + (t + 1 - s / 11 ^ 0 % 11) * 11 ^ 0 := if_pos hb1
          have zf : nI (ck_wd s w t 0) + nI (t + 1 - s / 11 ^ 0 % 11) * 1 = nI (ck_wd s w t (0 + 1)) := by
            rw [show (1 : Int32) = nI (11 ^ 0) from rfl, pk_mul, nI_add, zw]
          refine hB bX11_windsTo_6 _ _ _ _ _ _ _ kX11_windsTo_6 ?_
          dsimp only [bX11_windsTo_6, kx_wp, kx_step, kx_lI, kx_lL, kx_lA, kx_gl, kx_pI, kx_pL, kx_pR, kx_pA, kx_pV, kx_s1, kx_s2, kx_sl, kx_pre, kx_c2, kx_pl, kx_cmp, kx_oF, kx_eqN, kx_nil, kx_c1, kx_ft, kx_aI, kx_aL, kx_aR, kx_ln, Nat.reduceAdd, Option.toList, List.cons_append, List.nil_append, mW_o, mf_68]
          repeat (simp only [h68, nI_1, hb, zs, zf]; try dsimp only [kx_wp, kx_step, kx_lI, kx_lL, kx_lA, kx_gl, kx_pI, kx_pL, kx_pR, kx_pA, kx_pV, kx_s1, kx_s2, kx_sl, kx_pre, kx_c2, kx_pl, kx_cmp, kx_oF, kx_eqN, kx_nil, kx_c1, kx_ft, kx_aI, kx_aL, kx_aR, kx_ln, Nat.reduceAdd, Option.toList, List.cons_append, List.nil_append, mW_o, mf_68])
          repeat' apply And.intro
          all_goals try (first | with_reducible assumption | (with_reducible refine ck_nzI ?_; simp; done) | (with_reducible refine ck_nzL ?_; simp; done) | (with_reducible refine vp_in_nI ?_ ?_ <;> first | omega | decide) | (with_reducible refine Nat.le_of_ble_eq_true ?_; rfl) | omega)
          · intro zc12
            first | exact absurd rfl zc12 | exact absurd zc12 (by decide) | exact absurd (by decide) zc12 | (exfalso; first | exact absurd zc12 (by first | (simp only [nI_leI (show pk < 2 ^ 31 by omega) (show 0 < 2 ^ 31 by omega)]; omega) | (simp only [nI_leI (show pk < 2 ^ 31 by omega) (show 0 < 2 ^ 31 by omega), Decidable.not_not]; omega)) | exact zc22 (by rw [hb1]; rfl) | exact hb1 ((nI_eq (b := 1) (by omega) (by decide)).mp zc22) | exact hb1 ((nI_eq (b := 1) (by omega) (by decide)).mp (Decidable.not_not.mp zc22)) | exact absurd rfl zc39 | exact zc39 (by decide) | exact zc49 (by decide) | exact zc60 (by decide) | exact absurd zc39 (by decide) | exact absurd zc49 (by decide) | exact absurd zc60 (by decide)) | (exfalso; simp_all; done)
          · intro zc12
            with_reducible first | have ze12 := Int32.not_le.mp zc12 | have ze12 := zc12
            refine hB bX11_windsTo_15 _ _ _ _ _ _ _ kX11_windsTo_15 ?_
            dsimp only [bX11_windsTo_15, kx_wp, kx_step, kx_lI, kx_lL, kx_lA, kx_gl, kx_pI, kx_pL, kx_pR, kx_pA, kx_pV, kx_s1, kx_s2, kx_sl, kx_pre, kx_c2, kx_pl, kx_cmp, kx_oF, kx_eqN, kx_nil, kx_c1, kx_ft, kx_aI, kx_aL, kx_aR, kx_ln, Nat.reduceAdd, Option.toList, List.cons_append, List.nil_append, mW_o, mf_68]
            repeat (simp only [h68, nI_1, hb, zs, zf]; try dsimp only [kx_wp, kx_step, kx_lI, kx_lL, kx_lA, kx_gl, kx_pI, kx_pL, kx_pR, kx_pA, kx_pV, kx_s1, kx_s2, kx_sl, kx_pre, kx_c2, kx_pl, kx_cmp, kx_oF, kx_eqN, kx_nil, kx_c1, kx_ft, kx_aI, kx_aL, kx_aR, kx_ln, Nat.reduceAdd, Option.toList, List.cons_append, List.nil_append, mW_o, mf_68])
            repeat' apply And.intro
            all_goals try (first | with_reducible assumption | (with_reducible refine ck_nzI ?_; simp; done) | (with_reducible refine ck_nzL ?_; simp; done) | (with_reducible refine vp_in_nI ?_ ?_ <;> first | omega | decide) | (with_reducible refine Nat.le_of_ble_eq_true ?_; rfl) | omega)
            · intro zc22
              first | exact absurd rfl zc22 | exact absurd zc22 (by decide) | exact absurd (by decide) zc22 | (exfalso; first | exact absurd zc12 (by first | (simp only [nI_leI (show pk < 2 ^ 31 by omega) (show 0 < 2 ^ 31 by omega)]; omega) | (simp only [nI_leI (show pk < 2 ^ 31 by omega) (show 0 < 2 ^ 31 by omega), Decidable.not_not]; omega)) | exact zc22 (by rw [hb1]; rfl) | exact hb1 ((nI_eq (b := 1) (by omega) (by decide)).mp zc22) | exact hb1 ((nI_eq (b := 1) (by omega) (by decide)).mp (Decidable.not_not.mp zc22)) | exact absurd rfl zc39 | exact zc39 (by decide) | exact zc49 (by decide) | exact zc60 (by decide) | exact absurd zc39 (by decide) | exact absurd zc49 (by decide) | exact absurd zc60 (by decide)) | (exfalso; simp_all; done)
            · intro zc22
              with_reducible first | have ze22 := Decidable.not_not.mp zc22 | have ze22 := zc22
              refine hB bX11_windsTo_25 _ _ _ _ _ _ _ kX11_windsTo_25 ?_
              dsimp only [bX11_windsTo_25, kx_wp, kx_step, kx_lI, kx_lL, kx_lA, kx_gl, kx_pI, kx_pL, kx_pR, kx_pA, kx_pV, kx_s1, kx_s2, kx_sl, kx_pre, kx_c2, kx_pl, kx_cmp, kx_oF, kx_eqN, kx_nil, kx_c1, kx_ft, kx_aI, kx_aL, kx_aR, kx_ln, Nat.reduceAdd, Option.toList, List.cons_append, List.nil_append, mW_o, mf_68]
              repeat (simp only [h68, nI_1, hb, zs, zf]; try dsimp only [kx_wp, kx_step, kx_lI, kx_lL, kx_lA, kx_gl, kx_pI, kx_pL, kx_pR, kx_pA, kx_pV, kx_s1, kx_s2, kx_sl, kx_pre, kx_c2, kx_pl, kx_cmp, kx_oF, kx_eqN, kx_nil, kx_c1, kx_ft, kx_aI, kx_aL, kx_aR, kx_ln, Nat.reduceAdd, Option.toList, List.cons_append, List.nil_append, mW_o, mf_68])
              repeat' apply And.intro
              all_goals try (first | with_reducible assumption | (with_reducible refine ck_nzI ?_; simp; done) | (with_reducible refine ck_nzL ?_; simp; done) | (with_reducible refine vp_in_nI ?_ ?_ <;> first | omega | decide) | (with_reducible refine Nat.le_of_ble_eq_true ?_; rfl) | omega)
              refine hC.2.1 504 _ _ _ _ _ _ _ _ _ _ _ _ _ _ _ _ _ lX11_504 (ct_X11_lastOf l G (i := 0) hs (by decide)) rfl rfl (Nat.le_of_ble_eq_true rfl) (by decide) (by decide) (by omega) (by omega) dX11_windsTo_33 ?_
              refine hB bX11_windsTo_36 _ _ _ _ _ _ _ kX11_windsTo_36 ?_
              dsimp only [bX11_windsTo_36, kx_wp, kx_step, kx_lI, kx_lL, kx_lA, kx_gl, kx_pI, kx_pL, kx_pR, kx_pA, kx_pV, kx_s1, kx_s2, kx_sl, kx_pre, kx_c2, kx_pl, kx_cmp, kx_oF, kx_eqN, kx_nil, kx_c1, kx_ft, kx_aI, kx_aL, kx_aR, kx_ln, Nat.reduceAdd, Option.toList, List.cons_append, List.nil_append, mW_o, mf_68]
              repeat (simp only [h68, nI_1, hb, zs, zf]; try dsimp only [kx_wp, kx_step, kx_lI, kx_lL, kx_lA, kx_gl, kx_pI, kx_pL, kx_pR, kx_pA, kx_pV, kx_s1, kx_s2, kx_sl, kx_pre, kx_c2, kx_pl, kx_cmp, kx_oF, kx_eqN, kx_nil, kx_c1, kx_ft, kx_aI, kx_aL, kx_aR, kx_ln, Nat.reduceAdd, Option.toList, List.cons_append, List.nil_append, mW_o, mf_68])
              repeat' apply And.intro
              all_goals try (first | with_reducible assumption | (with_reducible refine ck_nzI ?_; simp; done) | (with_reducible refine ck_nzL ?_; simp; done) | (with_reducible refine vp_in_nI ?_ ?_ <;> first | omega | decide) | (with_reducible refine Nat.le_of_ble_eq_true ?_; rfl) | omega)
              · intro zc39
                first | exact absurd rfl zc39 | exact absurd zc39 (by decide) | exact absurd (by decide) zc39 | (exfalso; first | exact absurd zc12 (by first | (simp only [nI_leI (show pk < 2 ^ 31 by omega) (show 0 < 2 ^ 31 by omega)]; omega) | (simp only [nI_leI (show pk < 2 ^ 31 by omega) (show 0 < 2 ^ 31 by omega), Decidable.not_not]; omega)) | exact zc22 (by rw [hb1]; rfl) | exact hb1 ((nI_eq (b := 1) (by omega) (by decide)).mp zc22) | exact hb1 ((nI_eq (b := 1) (by omega) (by decide)).mp (Decidable.not_not.mp zc22)) | exact absurd rfl zc39 | exact zc39 (by decide) | exact zc49 (by decide) | exact zc60 (by decide) | exact absurd zc39 (by decide) | exact absurd zc49 (by decide) | exact absurd zc60 (by decide)) | (exfalso; simp_all; done)
              · intro zc39
                with_reducible first | have ze39 := Decidable.not_not.mp zc39 | have ze39 := zc39
                refine hB bX11_windsTo_42 _ _ _ _ _ _ _ kX11_windsTo_42 ?_
                dsimp only [bX11_windsTo_42, kx_wp, kx_step, kx_lI, kx_lL, kx_lA, kx_gl, kx_pI, kx_pL, kx_pR, kx_pA, kx_pV, kx_s1, kx_s2, kx_sl, kx_pre, kx_c2, kx_pl, kx_cmp, kx_oF, kx_eqN, kx_nil, kx_c1, kx_ft, kx_aI, kx_aL, kx_aR, kx_ln, Nat.reduceAdd, Option.toList, List.cons_append, List.nil_append, mW_o, mf_68]
                repeat (simp only [h68, nI_1, hb, zs, zf]; try dsimp only [kx_wp, kx_step, kx_lI, kx_lL, kx_lA, kx_gl, kx_pI, kx_pL, kx_pR, kx_pA, kx_pV, kx_s1, kx_s2, kx_sl, kx_pre, kx_c2, kx_pl, kx_cmp, kx_oF, kx_eqN, kx_nil, kx_c1, kx_ft, kx_aI, kx_aL, kx_aR, kx_ln, Nat.reduceAdd, Option.toList, List.cons_append, List.nil_append, mW_o, mf_68])
                repeat' apply And.intro
                all_goals try (first | with_reducible assumption | (with_reducible refine ck_nzI ?_; simp; done) | (with_reducible refine ck_nzL ?_; simp; done) | (with_reducible refine vp_in_nI ?_ ?_ <;> first | omega | decide) | (with_reducible refine Nat.le_of_ble_eq_true ?_; rfl) | omega)
                refine hB bX11_windsTo_71 _ _ _ _ _ _ _ kX11_windsTo_71 ?_
                dsimp only [bX11_windsTo_71, kx_wp, kx_step, kx_lI, kx_lL, kx_lA, kx_gl, kx_pI, kx_pL, kx_pR, kx_pA, kx_pV, kx_s1, kx_s2, kx_sl, kx_pre, kx_c2, kx_pl, kx_cmp, kx_oF, kx_eqN, kx_nil, kx_c1, kx_ft, kx_aI, kx_aL, kx_aR, kx_ln, Nat.reduceAdd, Option.toList, List.cons_append, List.nil_append, mW_o, mf_68]
                repeat (simp only [h68, nI_1, hb, zs, zf]; try dsimp only [kx_wp, kx_step, kx_lI, kx_lL, kx_lA, kx_gl, kx_pI, kx_pL, kx_pR, kx_pA, kx_pV, kx_s1, kx_s2, kx_sl, kx_pre, kx_c2, kx_pl, kx_cmp, kx_oF, kx_eqN, kx_nil, kx_c1, kx_ft, kx_aI, kx_aL, kx_aR, kx_ln, Nat.reduceAdd, Option.toList, List.cons_append, List.nil_append, mW_o, mf_68])
                repeat' apply And.intro
                all_goals try (first | with_reducible assumption | (with_reducible refine ck_nzI ?_; simp; done) | (with_reducible refine ck_nzL ?_; simp; done) | (with_reducible refine vp_in_nI ?_ ?_ <;> first | omega | decide) | (with_reducible refine Nat.le_of_ble_eq_true ?_; rfl) | omega)
                refine hB bX11_windsTo_75 _ _ _ _ _ _ _ kX11_windsTo_75 ?_
                dsimp only [bX11_windsTo_75, kx_wp, kx_step, kx_lI, kx_lL, kx_lA, kx_gl, kx_pI, kx_pL, kx_pR, kx_pA, kx_pV, kx_s1, kx_s2, kx_sl, kx_pre, kx_c2, kx_pl, kx_cmp, kx_oF, kx_eqN, kx_nil, kx_c1, kx_ft, kx_aI, kx_aL, kx_aR, kx_ln, Nat.reduceAdd, Option.toList, List.cons_append, List.nil_append, mW_o, mf_68]
                repeat (simp only [h68, nI_1, hb, zs, zf]; try dsimp only [kx_wp, kx_step, kx_lI, kx_lL, kx_lA, kx_gl, kx_pI, kx_pL, kx_pR, kx_pA, kx_pV, kx_s1, kx_s2, kx_sl, kx_pre, kx_c2, kx_pl, kx_cmp, kx_oF, kx_eqN, kx_nil, kx_c1, kx_ft, kx_aI, kx_aL, kx_aR, kx_ln, Nat.reduceAdd, Option.toList, List.cons_append, List.nil_append, mW_o, mf_68])
                repeat' apply And.intro
                all_goals try (first | with_reducible assumption | (with_reducible refine ck_nzI ?_; simp; done) | (with_reducible refine ck_nzL ?_; simp; done) | (with_reducible refine vp_in_nI ?_ ?_ <;> first | omega | decide) | (with_reducible refine Nat.le_of_ble_eq_true ?_; rfl) | omega)
                all_goals exact zi
        · have zs : nI (t + 1) - nI (s / 11 ^ 1 % 11) = nI (t + 1 - s / 11 ^ 1 % 11) := pk_sub (by omega)
          have zw : ck_wd s w t (1 + 1) = ck_wd s w t 1 + (t + 1 - s / 11 ^ 1 % 11) * 11 ^ 1 := if_pos hb1
          have zf : nI (ck_wd s w t 1) + nI (t + 1 - s / 11 ^ 1 % 11) * 11 = nI (ck_wd s w t (1 + 1)) := by
            rw [show (11 : Int32) = nI (11 ^ 1) from rfl, pk_mul, nI_add, zw]
          refine hB bX11_windsTo_6 _ _ _ _ _ _ _ kX11_windsTo_6 ?_
          dsimp only [bX11_windsTo_6, kx_wp, kx_step, kx_lI, kx_lL, kx_lA, kx_gl, kx_pI, kx_pL, kx_pR, kx_pA, kx_pV, kx_s1, kx_s2, kx_sl, kx_pre, kx_c2, kx_pl, kx_cmp, kx_oF, kx_eqN, kx_nil, kx_c1, kx_ft, kx_aI, kx_aL, kx_aR, kx_ln, Nat.reduceAdd, Option.toList, List.cons_append, List.nil_append, mW_o, mf_68]
          repeat (simp only [h68, nI_1, hb, zs, zf]; try dsimp only [kx_wp, kx_step, kx_lI, kx_lL, kx_lA, kx_gl, kx_pI, kx_pL, kx_pR, kx_pA, kx_pV, kx_s1, kx_s2, kx_sl, kx_pre, kx_c2, kx_pl, kx_cmp, kx_oF, kx_eqN, kx_nil, kx_c1, kx_ft, kx_aI, kx_aL, kx_aR, kx_ln, Nat.reduceAdd, Option.toList, List.cons_append, List.nil_append, mW_o, mf_68])
          repeat' apply And.intro
          all_goals try (first | with_reducible assumption | (with_reducible refine ck_nzI ?_; simp; done) | (with_reducible refine ck_nzL ?_; simp; done) | (with_reducible refine vp_in_nI ?_ ?_ <;> first | omega | decide) | (with_reducible refine Nat.le_of_ble_eq_true ?_; rfl) | omega)
          · intro zc12
            first | exact absurd rfl zc12 | exact absurd zc12 (by decide) | exact absurd (by decide) zc12 | (exfalso; first | exact absurd zc12 (by first | (simp only [nI_leI (show pk < 2 ^ 31 by omega) (show 1 < 2 ^ 31 by omega)]; omega) | (simp only [nI_leI (show pk < 2 ^ 31 by omega) (show 1 < 2 ^ 31 by omega), Decidable.not_not]; omega)) | exact zc22 (by rw [hb1]; rfl) | exact hb1 ((nI_eq (b := 1) (by omega) (by decide)).mp zc22) | exact hb1 ((nI_eq (b := 1) (by omega) (by decide)).mp (Decidable.not_not.mp zc22)) | exact absurd rfl zc39 | exact zc39 (by decide) | exact zc49 (by decide) | exact zc60 (by decide) | exact absurd zc39 (by decide) | exact absurd zc49 (by decide) | exact absurd zc60 (by decide)) | (exfalso; simp_all; done)
          · intro zc12
            with_reducible first | have ze12 := Int32.not_le.mp zc12 | have ze12 := zc12
            refine hB bX11_windsTo_15 _ _ _ _ _ _ _ kX11_windsTo_15 ?_
            dsimp only [bX11_windsTo_15, kx_wp, kx_step, kx_lI, kx_lL, kx_lA, kx_gl, kx_pI, kx_pL, kx_pR, kx_pA, kx_pV, kx_s1, kx_s2, kx_sl, kx_pre, kx_c2, kx_pl, kx_cmp, kx_oF, kx_eqN, kx_nil, kx_c1, kx_ft, kx_aI, kx_aL, kx_aR, kx_ln, Nat.reduceAdd, Option.toList, List.cons_append, List.nil_append, mW_o, mf_68]
            repeat (simp only [h68, nI_1, hb, zs, zf]; try dsimp only [kx_wp, kx_step, kx_lI, kx_lL, kx_lA, kx_gl, kx_pI, kx_pL, kx_pR, kx_pA, kx_pV, kx_s1, kx_s2, kx_sl, kx_pre, kx_c2, kx_pl, kx_cmp, kx_oF, kx_eqN, kx_nil, kx_c1, kx_ft, kx_aI, kx_aL, kx_aR, kx_ln, Nat.reduceAdd, Option.toList, List.cons_append, List.nil_append, mW_o, mf_68])
            repeat' apply And.intro
            all_goals try (first | with_reducible assumption | (with_reducible refine ck_nzI ?_; simp; done) | (with_reducible refine ck_nzL ?_; simp; done) | (with_reducible refine vp_in_nI ?_ ?_ <;> first | omega | decide) | (with_reducible refine Nat.le_of_ble_eq_true ?_; rfl) | omega)
            · intro zc22
              first | exact absurd rfl zc22 | exact absurd zc22 (by decide) | exact absurd (by decide) zc22 | (exfalso; first | exact absurd zc12 (by first | (simp only [nI_leI (show pk < 2 ^ 31 by omega) (show 1 < 2 ^ 31 by omega)]; omega) | (simp only [nI_leI (show pk < 2 ^ 31 by omega) (show 1 < 2 ^ 31 by omega), Decidable.not_not]; omega)) | exact zc22 (by rw [hb1]; rfl) | exact hb1 ((nI_eq (b := 1) (by omega) (by decide)).mp zc22) | exact hb1 ((nI_eq (b := 1) (by omega) (by decide)).mp (Decidable.not_not.mp zc22)) | exact absurd rfl zc39 | exact zc39 (by decide) | exact zc49 (by decide) | exact zc60 (by decide) | exact absurd zc39 (by decide) | exact absurd zc49 (by decide) | exact absurd zc60 (by decide)) | (exfalso; simp_all; done)
            · intro zc22
              with_reducible first | have ze22 := Decidable.not_not.mp zc22 | have ze22 := zc22
              refine hB bX11_windsTo_25 _ _ _ _ _ _ _ kX11_windsTo_25 ?_
              dsimp only [bX11_windsTo_25, kx_wp, kx_step, kx_lI, kx_lL, kx_lA, kx_gl, kx_pI, kx_pL, kx_pR, kx_pA, kx_pV, kx_s1, kx_s2, kx_sl, kx_pre, kx_c2, kx_pl, kx_cmp, kx_oF, kx_eqN, kx_nil, kx_c1, kx_ft, kx_aI, kx_aL, kx_aR, kx_ln, Nat.reduceAdd, Option.toList, List.cons_append, List.nil_append, mW_o, mf_68]
              repeat (simp only [h68, nI_1, hb, zs, zf]; try dsimp only [kx_wp, kx_step, kx_lI, kx_lL, kx_lA, kx_gl, kx_pI, kx_pL, kx_pR, kx_pA, kx_pV, kx_s1, kx_s2, kx_sl, kx_pre, kx_c2, kx_pl, kx_cmp, kx_oF, kx_eqN, kx_nil, kx_c1, kx_ft, kx_aI, kx_aL, kx_aR, kx_ln, Nat.reduceAdd, Option.toList, List.cons_append, List.nil_append, mW_o, mf_68])
              repeat' apply And.intro
              all_goals try (first | with_reducible assumption | (with_reducible refine ck_nzI ?_; simp; done) | (with_reducible refine ck_nzL ?_; simp; done) | (with_reducible refine vp_in_nI ?_ ?_ <;> first | omega | decide) | (with_reducible refine Nat.le_of_ble_eq_true ?_; rfl) | omega)
              refine hC.2.1 504 _ _ _ _ _ _ _ _ _ _ _ _ _ _ _ _ _ lX11_504 (ct_X11_lastOf l G (i := 1) hs (by decide)) rfl rfl (Nat.le_of_ble_eq_true rfl) (by decide) (by decide) (by omega) (by omega) dX11_windsTo_33 ?_
              refine hB bX11_windsTo_36 _ _ _ _ _ _ _ kX11_windsTo_36 ?_
              dsimp only [bX11_windsTo_36, kx_wp, kx_step, kx_lI, kx_lL, kx_lA, kx_gl, kx_pI, kx_pL, kx_pR, kx_pA, kx_pV, kx_s1, kx_s2, kx_sl, kx_pre, kx_c2, kx_pl, kx_cmp, kx_oF, kx_eqN, kx_nil, kx_c1, kx_ft, kx_aI, kx_aL, kx_aR, kx_ln, Nat.reduceAdd, Option.toList, List.cons_append, List.nil_append, mW_o, mf_68]
              repeat (simp only [h68, nI_1, hb, zs, zf]; try dsimp only [kx_wp, kx_step, kx_lI, kx_lL, kx_lA, kx_gl, kx_pI, kx_pL, kx_pR, kx_pA, kx_pV, kx_s1, kx_s2, kx_sl, kx_pre, kx_c2, kx_pl, kx_cmp, kx_oF, kx_eqN, kx_nil, kx_c1, kx_ft, kx_aI, kx_aL, kx_aR, kx_ln, Nat.reduceAdd, Option.toList, List.cons_append, List.nil_append, mW_o, mf_68])
              repeat' apply And.intro
              all_goals try (first | with_reducible assumption | (with_reducible refine ck_nzI ?_; simp; done) | (with_reducible refine ck_nzL ?_; simp; done) | (with_reducible refine vp_in_nI ?_ ?_ <;> first | omega | decide) | (with_reducible refine Nat.le_of_ble_eq_true ?_; rfl) | omega)
              · intro zc39
                have ze39 := zc39
                refine hB bX11_windsTo_46 _ _ _ _ _ _ _ kX11_windsTo_46 ?_
                dsimp only [bX11_windsTo_46, kx_wp, kx_step, kx_lI, kx_lL, kx_lA, kx_gl, kx_pI, kx_pL, kx_pR, kx_pA, kx_pV, kx_s1, kx_s2, kx_sl, kx_pre, kx_c2, kx_pl, kx_cmp, kx_oF, kx_eqN, kx_nil, kx_c1, kx_ft, kx_aI, kx_aL, kx_aR, kx_ln, Nat.reduceAdd, Option.toList, List.cons_append, List.nil_append, mW_o, mf_68]
                repeat (simp only [h68, nI_1, hb, zs, zf]; try dsimp only [kx_wp, kx_step, kx_lI, kx_lL, kx_lA, kx_gl, kx_pI, kx_pL, kx_pR, kx_pA, kx_pV, kx_s1, kx_s2, kx_sl, kx_pre, kx_c2, kx_pl, kx_cmp, kx_oF, kx_eqN, kx_nil, kx_c1, kx_ft, kx_aI, kx_aL, kx_aR, kx_ln, Nat.reduceAdd, Option.toList, List.cons_append, List.nil_append, mW_o, mf_68])
                repeat' apply And.intro
                all_goals try (first | with_reducible assumption | (with_reducible refine ck_nzI ?_; simp; done) | (with_reducible refine ck_nzL ?_; simp; done) | (with_reducible refine vp_in_nI ?_ ?_ <;> first | omega | decide) | (with_reducible refine Nat.le_of_ble_eq_true ?_; rfl) | omega)
                · intro zc49
                  first | exact absurd rfl zc49 | exact absurd zc49 (by decide) | exact absurd (by decide) zc49 | (exfalso; first | exact absurd zc12 (by first | (simp only [nI_leI (show pk < 2 ^ 31 by omega) (show 1 < 2 ^ 31 by omega)]; omega) | (simp only [nI_leI (show pk < 2 ^ 31 by omega) (show 1 < 2 ^ 31 by omega), Decidable.not_not]; omega)) | exact zc22 (by rw [hb1]; rfl) | exact hb1 ((nI_eq (b := 1) (by omega) (by decide)).mp zc22) | exact hb1 ((nI_eq (b := 1) (by omega) (by decide)).mp (Decidable.not_not.mp zc22)) | exact absurd rfl zc39 | exact zc39 (by decide) | exact zc49 (by decide) | exact zc60 (by decide) | exact absurd zc39 (by decide) | exact absurd zc49 (by decide) | exact absurd zc60 (by decide)) | (exfalso; simp_all; done)
                · intro zc49
                  with_reducible first | have ze49 := Decidable.not_not.mp zc49 | have ze49 := zc49
                  refine hB bX11_windsTo_52 _ _ _ _ _ _ _ kX11_windsTo_52 ?_
                  dsimp only [bX11_windsTo_52, kx_wp, kx_step, kx_lI, kx_lL, kx_lA, kx_gl, kx_pI, kx_pL, kx_pR, kx_pA, kx_pV, kx_s1, kx_s2, kx_sl, kx_pre, kx_c2, kx_pl, kx_cmp, kx_oF, kx_eqN, kx_nil, kx_c1, kx_ft, kx_aI, kx_aL, kx_aR, kx_ln, Nat.reduceAdd, Option.toList, List.cons_append, List.nil_append, mW_o, mf_68]
                  repeat (simp only [h68, nI_1, hb, zs, zf]; try dsimp only [kx_wp, kx_step, kx_lI, kx_lL, kx_lA, kx_gl, kx_pI, kx_pL, kx_pR, kx_pA, kx_pV, kx_s1, kx_s2, kx_sl, kx_pre, kx_c2, kx_pl, kx_cmp, kx_oF, kx_eqN, kx_nil, kx_c1, kx_ft, kx_aI, kx_aL, kx_aR, kx_ln, Nat.reduceAdd, Option.toList, List.cons_append, List.nil_append, mW_o, mf_68])
                  repeat' apply And.intro
                  all_goals try (first | with_reducible assumption | (with_reducible refine ck_nzI ?_; simp; done) | (with_reducible refine ck_nzL ?_; simp; done) | (with_reducible refine vp_in_nI ?_ ?_ <;> first | omega | decide) | (with_reducible refine Nat.le_of_ble_eq_true ?_; rfl) | omega)
                  refine hB bX11_windsTo_71 _ _ _ _ _ _ _ kX11_windsTo_71 ?_
                  dsimp only [bX11_windsTo_71, kx_wp, kx_step, kx_lI, kx_lL, kx_lA, kx_gl, kx_pI, kx_pL, kx_pR, kx_pA, kx_pV, kx_s1, kx_s2, kx_sl, kx_pre, kx_c2, kx_pl, kx_cmp, kx_oF, kx_eqN, kx_nil, kx_c1, kx_ft, kx_aI, kx_aL, kx_aR, kx_ln, Nat.reduceAdd, Option.toList, List.cons_append, List.nil_append, mW_o, mf_68]
                  repeat (simp only [h68, nI_1, hb, zs, zf]; try dsimp only [kx_wp, kx_step, kx_lI, kx_lL, kx_lA, kx_gl, kx_pI, kx_pL, kx_pR, kx_pA, kx_pV, kx_s1, kx_s2, kx_sl, kx_pre, kx_c2, kx_pl, kx_cmp, kx_oF, kx_eqN, kx_nil, kx_c1, kx_ft, kx_aI, kx_aL, kx_aR, kx_ln, Nat.reduceAdd, Option.toList, List.cons_append, List.nil_append, mW_o, mf_68])
                  repeat' apply And.intro
                  all_goals try (first | with_reducible assumption | (with_reducible refine ck_nzI ?_; simp; done) | (with_reducible refine ck_nzL ?_; simp; done) | (with_reducible refine vp_in_nI ?_ ?_ <;> first | omega | decide) | (with_reducible refine Nat.le_of_ble_eq_true ?_; rfl) | omega)
                  refine hB bX11_windsTo_75 _ _ _ _ _ _ _ kX11_windsTo_75 ?_
                  dsimp only [bX11_windsTo_75, kx_wp, kx_step, kx_lI, kx_lL, kx_lA, kx_gl, kx_pI, kx_pL, kx_pR, kx_pA, kx_pV, kx_s1, kx_s2, kx_sl, kx_pre, kx_c2, kx_pl, kx_cmp, kx_oF, kx_eqN, kx_nil, kx_c1, kx_ft, kx_aI, kx_aL, kx_aR, kx_ln, Nat.reduceAdd, Option.toList, List.cons_append, List.nil_append, mW_o, mf_68]
                  repeat (simp only [h68, nI_1, hb, zs, zf]; try dsimp only [kx_wp, kx_step, kx_lI, kx_lL, kx_lA, kx_gl, kx_pI, kx_pL, kx_pR, kx_pA, kx_pV, kx_s1, kx_s2, kx_sl, kx_pre, kx_c2, kx_pl, kx_cmp, kx_oF, kx_eqN, kx_nil, kx_c1, kx_ft, kx_aI, kx_aL, kx_aR, kx_ln, Nat.reduceAdd, Option.toList, List.cons_append, List.nil_append, mW_o, mf_68])
                  repeat' apply And.intro
                  all_goals try (first | with_reducible assumption | (with_reducible refine ck_nzI ?_; simp; done) | (with_reducible refine ck_nzL ?_; simp; done) | (with_reducible refine vp_in_nI ?_ ?_ <;> first | omega | decide) | (with_reducible refine Nat.le_of_ble_eq_true ?_; rfl) | omega)
                  all_goals exact zi
              · intro zc39
                first | exact absurd rfl zc39 | exact absurd zc39 (by decide) | exact absurd (by decide) zc39 | (exfalso; first | exact absurd zc12 (by first | (simp only [nI_leI (show pk < 2 ^ 31 by omega) (show 1 < 2 ^ 31 by omega)]; omega) | (simp only [nI_leI (show pk < 2 ^ 31 by omega) (show 1 < 2 ^ 31 by omega), Decidable.not_not]; omega)) | exact zc22 (by rw [hb1]; rfl) | exact hb1 ((nI_eq (b := 1) (by omega) (by decide)).mp zc22) | exact hb1 ((nI_eq (b := 1) (by omega) (by decide)).mp (Decidable.not_not.mp zc22)) | exact absurd rfl zc39 | exact zc39 (by decide) | exact zc49 (by decide) | exact zc60 (by decide) | exact absurd zc39 (by decide) | exact absurd zc49 (by decide) | exact absurd zc60 (by decide)) | (exfalso; simp_all; done)
        · have zs : nI (t + 1) - nI (s / 11 ^ 2 % 11) = nI (t + 1 - s / 11 ^ 2 % 11) := pk_sub (by omega)
          have zw : ck_wd s w t (2 + 1) = ck_wd s w t 2 + (t + 1 - s / 11 ^ 2 % 11) * 11 ^ 2 := if_pos hb1
          have zf : nI (ck_wd s w t 2) + nI (t + 1 - s / 11 ^ 2 % 11) * 121 = nI (ck_wd s w t (2 + 1)) := by
            rw [show (121 : Int32) = nI (11 ^ 2) from rfl, pk_mul, nI_add, zw]
          refine hB bX11_windsTo_6 _ _ _ _ _ _ _ kX11_windsTo_6 ?_
          dsimp only [bX11_windsTo_6, kx_wp, kx_step, kx_lI, kx_lL, kx_lA, kx_gl, kx_pI, kx_pL, kx_pR, kx_pA, kx_pV, kx_s1, kx_s2, kx_sl, kx_pre, kx_c2, kx_pl, kx_cmp, kx_oF, kx_eqN, kx_nil, kx_c1, kx_ft, kx_aI, kx_aL, kx_aR, kx_ln, Nat.reduceAdd, Option.toList, List.cons_append, List.nil_append, mW_o, mf_68]
          repeat (simp only [h68, nI_1, hb, zs, zf]; try dsimp only [kx_wp, kx_step, kx_lI, kx_lL, kx_lA, kx_gl, kx_pI, kx_pL, kx_pR, kx_pA, kx_pV, kx_s1, kx_s2, kx_sl, kx_pre, kx_c2, kx_pl, kx_cmp, kx_oF, kx_eqN, kx_nil, kx_c1, kx_ft, kx_aI, kx_aL, kx_aR, kx_ln, Nat.reduceAdd, Option.toList, List.cons_append, List.nil_append, mW_o, mf_68])
          repeat' apply And.intro
          all_goals try (first | with_reducible assumption | (with_reducible refine ck_nzI ?_; simp; done) | (with_reducible refine ck_nzL ?_; simp; done) | (with_reducible refine vp_in_nI ?_ ?_ <;> first | omega | decide) | (with_reducible refine Nat.le_of_ble_eq_true ?_; rfl) | omega)
          · intro zc12
            first | exact absurd rfl zc12 | exact absurd zc12 (by decide) | exact absurd (by decide) zc12 | (exfalso; first | exact absurd zc12 (by first | (simp only [nI_leI (show pk < 2 ^ 31 by omega) (show 2 < 2 ^ 31 by omega)]; omega) | (simp only [nI_leI (show pk < 2 ^ 31 by omega) (show 2 < 2 ^ 31 by omega), Decidable.not_not]; omega)) | exact zc22 (by rw [hb1]; rfl) | exact hb1 ((nI_eq (b := 1) (by omega) (by decide)).mp zc22) | exact hb1 ((nI_eq (b := 1) (by omega) (by decide)).mp (Decidable.not_not.mp zc22)) | exact absurd rfl zc39 | exact zc39 (by decide) | exact zc49 (by decide) | exact zc60 (by decide) | exact absurd zc39 (by decide) | exact absurd zc49 (by decide) | exact absurd zc60 (by decide)) | (exfalso; simp_all; done)
          · intro zc12
            with_reducible first | have ze12 := Int32.not_le.mp zc12 | have ze12 := zc12
            refine hB bX11_windsTo_15 _ _ _ _ _ _ _ kX11_windsTo_15 ?_
            dsimp only [bX11_windsTo_15, kx_wp, kx_step, kx_lI, kx_lL, kx_lA, kx_gl, kx_pI, kx_pL, kx_pR, kx_pA, kx_pV, kx_s1, kx_s2, kx_sl, kx_pre, kx_c2, kx_pl, kx_cmp, kx_oF, kx_eqN, kx_nil, kx_c1, kx_ft, kx_aI, kx_aL, kx_aR, kx_ln, Nat.reduceAdd, Option.toList, List.cons_append, List.nil_append, mW_o, mf_68]
            repeat (simp only [h68, nI_1, hb, zs, zf]; try dsimp only [kx_wp, kx_step, kx_lI, kx_lL, kx_lA, kx_gl, kx_pI, kx_pL, kx_pR, kx_pA, kx_pV, kx_s1, kx_s2, kx_sl, kx_pre, kx_c2, kx_pl, kx_cmp, kx_oF, kx_eqN, kx_nil, kx_c1, kx_ft, kx_aI, kx_aL, kx_aR, kx_ln, Nat.reduceAdd, Option.toList, List.cons_append, List.nil_append, mW_o, mf_68])
            repeat' apply And.intro
            all_goals try (first | with_reducible assumption | (with_reducible refine ck_nzI ?_; simp; done) | (with_reducible refine ck_nzL ?_; simp; done) | (with_reducible refine vp_in_nI ?_ ?_ <;> first | omega | decide) | (with_reducible refine Nat.le_of_ble_eq_true ?_; rfl) | omega)
            · intro zc22
              first | exact absurd rfl zc22 | exact absurd zc22 (by decide) | exact absurd (by decide) zc22 | (exfalso; first | exact absurd zc12 (by first | (simp only [nI_leI (show pk < 2 ^ 31 by omega) (show 2 < 2 ^ 31 by omega)]; omega) | (simp only [nI_leI (show pk < 2 ^ 31 by omega) (show 2 < 2 ^ 31 by omega), Decidable.not_not]; omega)) | exact zc22 (by rw [hb1]; rfl) | exact hb1 ((nI_eq (b := 1) (by omega) (by decide)).mp zc22) | exact hb1 ((nI_eq (b := 1) (by omega) (by decide)).mp (Decidable.not_not.mp zc22)) | exact absurd rfl zc39 | exact zc39 (by decide) | exact zc49 (by decide) | exact zc60 (by decide) | exact absurd zc39 (by decide) | exact absurd zc49 (by decide) | exact absurd zc60 (by decide)) | (exfalso; simp_all; done)
            · intro zc22
              with_reducible first | have ze22 := Decidable.not_not.mp zc22 | have ze22 := zc22
              refine hB bX11_windsTo_25 _ _ _ _ _ _ _ kX11_windsTo_25 ?_
              dsimp only [bX11_windsTo_25, kx_wp, kx_step, kx_lI, kx_lL, kx_lA, kx_gl, kx_pI, kx_pL, kx_pR, kx_pA, kx_pV, kx_s1, kx_s2, kx_sl, kx_pre, kx_c2, kx_pl, kx_cmp, kx_oF, kx_eqN, kx_nil, kx_c1, kx_ft, kx_aI, kx_aL, kx_aR, kx_ln, Nat.reduceAdd, Option.toList, List.cons_append, List.nil_append, mW_o, mf_68]
              repeat (simp only [h68, nI_1, hb, zs, zf]; try dsimp only [kx_wp, kx_step, kx_lI, kx_lL, kx_lA, kx_gl, kx_pI, kx_pL, kx_pR, kx_pA, kx_pV, kx_s1, kx_s2, kx_sl, kx_pre, kx_c2, kx_pl, kx_cmp, kx_oF, kx_eqN, kx_nil, kx_c1, kx_ft, kx_aI, kx_aL, kx_aR, kx_ln, Nat.reduceAdd, Option.toList, List.cons_append, List.nil_append, mW_o, mf_68])
              repeat' apply And.intro
              all_goals try (first | with_reducible assumption | (with_reducible refine ck_nzI ?_; simp; done) | (with_reducible refine ck_nzL ?_; simp; done) | (with_reducible refine vp_in_nI ?_ ?_ <;> first | omega | decide) | (with_reducible refine Nat.le_of_ble_eq_true ?_; rfl) | omega)
              refine hC.2.1 504 _ _ _ _ _ _ _ _ _ _ _ _ _ _ _ _ _ lX11_504 (ct_X11_lastOf l G (i := 2) hs (by decide)) rfl rfl (Nat.le_of_ble_eq_true rfl) (by decide) (by decide) (by omega) (by omega) dX11_windsTo_33 ?_
              refine hB bX11_windsTo_36 _ _ _ _ _ _ _ kX11_windsTo_36 ?_
              dsimp only [bX11_windsTo_36, kx_wp, kx_step, kx_lI, kx_lL, kx_lA, kx_gl, kx_pI, kx_pL, kx_pR, kx_pA, kx_pV, kx_s1, kx_s2, kx_sl, kx_pre, kx_c2, kx_pl, kx_cmp, kx_oF, kx_eqN, kx_nil, kx_c1, kx_ft, kx_aI, kx_aL, kx_aR, kx_ln, Nat.reduceAdd, Option.toList, List.cons_append, List.nil_append, mW_o, mf_68]
              repeat (simp only [h68, nI_1, hb, zs, zf]; try dsimp only [kx_wp, kx_step, kx_lI, kx_lL, kx_lA, kx_gl, kx_pI, kx_pL, kx_pR, kx_pA, kx_pV, kx_s1, kx_s2, kx_sl, kx_pre, kx_c2, kx_pl, kx_cmp, kx_oF, kx_eqN, kx_nil, kx_c1, kx_ft, kx_aI, kx_aL, kx_aR, kx_ln, Nat.reduceAdd, Option.toList, List.cons_append, List.nil_append, mW_o, mf_68])
              repeat' apply And.intro
              all_goals try (first | with_reducible assumption | (with_reducible refine ck_nzI ?_; simp; done) | (with_reducible refine ck_nzL ?_; simp; done) | (with_reducible refine vp_in_nI ?_ ?_ <;> first | omega | decide) | (with_reducible refine Nat.le_of_ble_eq_true ?_; rfl) | omega)
              · intro zc39
                have ze39 := zc39
                refine hB bX11_windsTo_46 _ _ _ _ _ _ _ kX11_windsTo_46 ?_
                dsimp only [bX11_windsTo_46, kx_wp, kx_step, kx_lI, kx_lL, kx_lA, kx_gl, kx_pI, kx_pL, kx_pR, kx_pA, kx_pV, kx_s1, kx_s2, kx_sl, kx_pre, kx_c2, kx_pl, kx_cmp, kx_oF, kx_eqN, kx_nil, kx_c1, kx_ft, kx_aI, kx_aL, kx_aR, kx_ln, Nat.reduceAdd, Option.toList, List.cons_append, List.nil_append, mW_o, mf_68]
                repeat (simp only [h68, nI_1, hb, zs, zf]; try dsimp only [kx_wp, kx_step, kx_lI, kx_lL, kx_lA, kx_gl, kx_pI, kx_pL, kx_pR, kx_pA, kx_pV, kx_s1, kx_s2, kx_sl, kx_pre, kx_c2, kx_pl, kx_cmp, kx_oF, kx_eqN, kx_nil, kx_c1, kx_ft, kx_aI, kx_aL, kx_aR, kx_ln, Nat.reduceAdd, Option.toList, List.cons_append, List.nil_append, mW_o, mf_68])
                repeat' apply And.intro
                all_goals try (first | with_reducible assumption | (with_reducible refine ck_nzI ?_; simp; done) | (with_reducible refine ck_nzL ?_; simp; done) | (with_reducible refine vp_in_nI ?_ ?_ <;> first | omega | decide) | (with_reducible refine Nat.le_of_ble_eq_true ?_; rfl) | omega)
                · intro zc49
                  have ze49 := zc49
                  refine hB bX11_windsTo_57 _ _ _ _ _ _ _ kX11_windsTo_57 ?_
                  dsimp only [bX11_windsTo_57, kx_wp, kx_step, kx_lI, kx_lL, kx_lA, kx_gl, kx_pI, kx_pL, kx_pR, kx_pA, kx_pV, kx_s1, kx_s2, kx_sl, kx_pre, kx_c2, kx_pl, kx_cmp, kx_oF, kx_eqN, kx_nil, kx_c1, kx_ft, kx_aI, kx_aL, kx_aR, kx_ln, Nat.reduceAdd, Option.toList, List.cons_append, List.nil_append, mW_o, mf_68]
                  repeat (simp only [h68, nI_1, hb, zs, zf]; try dsimp only [kx_wp, kx_step, kx_lI, kx_lL, kx_lA, kx_gl, kx_pI, kx_pL, kx_pR, kx_pA, kx_pV, kx_s1, kx_s2, kx_sl, kx_pre, kx_c2, kx_pl, kx_cmp, kx_oF, kx_eqN, kx_nil, kx_c1, kx_ft, kx_aI, kx_aL, kx_aR, kx_ln, Nat.reduceAdd, Option.toList, List.cons_append, List.nil_append, mW_o, mf_68])
                  repeat' apply And.intro
                  all_goals try (first | with_reducible assumption | (with_reducible refine ck_nzI ?_; simp; done) | (with_reducible refine ck_nzL ?_; simp; done) | (with_reducible refine vp_in_nI ?_ ?_ <;> first | omega | decide) | (with_reducible refine Nat.le_of_ble_eq_true ?_; rfl) | omega)
                  · intro zc60
                    first | exact absurd rfl zc60 | exact absurd zc60 (by decide) | exact absurd (by decide) zc60 | (exfalso; first | exact absurd zc12 (by first | (simp only [nI_leI (show pk < 2 ^ 31 by omega) (show 2 < 2 ^ 31 by omega)]; omega) | (simp only [nI_leI (show pk < 2 ^ 31 by omega) (show 2 < 2 ^ 31 by omega), Decidable.not_not]; omega)) | exact zc22 (by rw [hb1]; rfl) | exact hb1 ((nI_eq (b := 1) (by omega) (by decide)).mp zc22) | exact hb1 ((nI_eq (b := 1) (by omega) (by decide)).mp (Decidable.not_not.mp zc22)) | exact absurd rfl zc39 | exact zc39 (by decide) | exact zc49 (by decide) | exact zc60 (by decide) | exact absurd zc39 (by decide) | exact absurd zc49 (by decide) | exact absurd zc60 (by decide)) | (exfalso; simp_all; done)
                  · intro zc60
                    with_reducible first | have ze60 := Decidable.not_not.mp zc60 | have ze60 := zc60
                    refine hB bX11_windsTo_63 _ _ _ _ _ _ _ kX11_windsTo_63 ?_
                    dsimp only [bX11_windsTo_63, kx_wp, kx_step, kx_lI, kx_lL, kx_lA, kx_gl, kx_pI, kx_pL, kx_pR, kx_pA, kx_pV, kx_s1, kx_s2, kx_sl, kx_pre, kx_c2, kx_pl, kx_cmp, kx_oF, kx_eqN, kx_nil, kx_c1, kx_ft, kx_aI, kx_aL, kx_aR, kx_ln, Nat.reduceAdd, Option.toList, List.cons_append, List.nil_append, mW_o, mf_68]
                    repeat (simp only [h68, nI_1, hb, zs, zf]; try dsimp only [kx_wp, kx_step, kx_lI, kx_lL, kx_lA, kx_gl, kx_pI, kx_pL, kx_pR, kx_pA, kx_pV, kx_s1, kx_s2, kx_sl, kx_pre, kx_c2, kx_pl, kx_cmp, kx_oF, kx_eqN, kx_nil, kx_c1, kx_ft, kx_aI, kx_aL, kx_aR, kx_ln, Nat.reduceAdd, Option.toList, List.cons_append, List.nil_append, mW_o, mf_68])
                    repeat' apply And.intro
                    all_goals try (first | with_reducible assumption | (with_reducible refine ck_nzI ?_; simp; done) | (with_reducible refine ck_nzL ?_; simp; done) | (with_reducible refine vp_in_nI ?_ ?_ <;> first | omega | decide) | (with_reducible refine Nat.le_of_ble_eq_true ?_; rfl) | omega)
                    refine hB bX11_windsTo_71 _ _ _ _ _ _ _ kX11_windsTo_71 ?_
                    dsimp only [bX11_windsTo_71, kx_wp, kx_step, kx_lI, kx_lL, kx_lA, kx_gl, kx_pI, kx_pL, kx_pR, kx_pA, kx_pV, kx_s1, kx_s2, kx_sl, kx_pre, kx_c2, kx_pl, kx_cmp, kx_oF, kx_eqN, kx_nil, kx_c1, kx_ft, kx_aI, kx_aL, kx_aR, kx_ln, Nat.reduceAdd, Option.toList, List.cons_append, List.nil_append, mW_o, mf_68]
                    repeat (simp only [h68, nI_1, hb, zs, zf]; try dsimp only [kx_wp, kx_step, kx_lI, kx_lL, kx_lA, kx_gl, kx_pI, kx_pL, kx_pR, kx_pA, kx_pV, kx_s1, kx_s2, kx_sl, kx_pre, kx_c2, kx_pl, kx_cmp, kx_oF, kx_eqN, kx_nil, kx_c1, kx_ft, kx_aI, kx_aL, kx_aR, kx_ln, Nat.reduceAdd, Option.toList, List.cons_append, List.nil_append, mW_o, mf_68])
                    repeat' apply And.intro
                    all_goals try (first | with_reducible assumption | (with_reducible refine ck_nzI ?_; simp; done) | (with_reducible refine ck_nzL ?_; simp; done) | (with_reducible refine vp_in_nI ?_ ?_ <;> first | omega | decide) | (with_reducible refine Nat.le_of_ble_eq_true ?_; rfl) | omega)
                    refine hB bX11_windsTo_75 _ _ _ _ _ _ _ kX11_windsTo_75 ?_
                    dsimp only [bX11_windsTo_75, kx_wp, kx_step, kx_lI, kx_lL, kx_lA, kx_gl, kx_pI, kx_pL, kx_pR, kx_pA, kx_pV, kx_s1, kx_s2, kx_sl, kx_pre, kx_c2, kx_pl, kx_cmp, kx_oF, kx_eqN, kx_nil, kx_c1, kx_ft, kx_aI, kx_aL, kx_aR, kx_ln, Nat.reduceAdd, Option.toList, List.cons_append, List.nil_append, mW_o, mf_68]
                    repeat (simp only [h68, nI_1, hb, zs, zf]; try dsimp only [kx_wp, kx_step, kx_lI, kx_lL, kx_lA, kx_gl, kx_pI, kx_pL, kx_pR, kx_pA, kx_pV, kx_s1, kx_s2, kx_sl, kx_pre, kx_c2, kx_pl, kx_cmp, kx_oF, kx_eqN, kx_nil, kx_c1, kx_ft, kx_aI, kx_aL, kx_aR, kx_ln, Nat.reduceAdd, Option.toList, List.cons_append, List.nil_append, mW_o, mf_68])
                    repeat' apply And.intro
                    all_goals try (first | with_reducible assumption | (with_reducible refine ck_nzI ?_; simp; done) | (with_reducible refine ck_nzL ?_; simp; done) | (with_reducible refine vp_in_nI ?_ ?_ <;> first | omega | decide) | (with_reducible refine Nat.le_of_ble_eq_true ?_; rfl) | omega)
                    all_goals exact zi
                · intro zc49
                  first | exact absurd rfl zc49 | exact absurd zc49 (by decide) | exact absurd (by decide) zc49 | (exfalso; first | exact absurd zc12 (by first | (simp only [nI_leI (show pk < 2 ^ 31 by omega) (show 2 < 2 ^ 31 by omega)]; omega) | (simp only [nI_leI (show pk < 2 ^ 31 by omega) (show 2 < 2 ^ 31 by omega), Decidable.not_not]; omega)) | exact zc22 (by rw [hb1]; rfl) | exact hb1 ((nI_eq (b := 1) (by omega) (by decide)).mp zc22) | exact hb1 ((nI_eq (b := 1) (by omega) (by decide)).mp (Decidable.not_not.mp zc22)) | exact absurd rfl zc39 | exact zc39 (by decide) | exact zc49 (by decide) | exact zc60 (by decide) | exact absurd zc39 (by decide) | exact absurd zc49 (by decide) | exact absurd zc60 (by decide)) | (exfalso; simp_all; done)
              · intro zc39
                first | exact absurd rfl zc39 | exact absurd zc39 (by decide) | exact absurd (by decide) zc39 | (exfalso; first | exact absurd zc12 (by first | (simp only [nI_leI (show pk < 2 ^ 31 by omega) (show 2 < 2 ^ 31 by omega)]; omega) | (simp only [nI_leI (show pk < 2 ^ 31 by omega) (show 2 < 2 ^ 31 by omega), Decidable.not_not]; omega)) | exact zc22 (by rw [hb1]; rfl) | exact hb1 ((nI_eq (b := 1) (by omega) (by decide)).mp zc22) | exact hb1 ((nI_eq (b := 1) (by omega) (by decide)).mp (Decidable.not_not.mp zc22)) | exact absurd rfl zc39 | exact zc39 (by decide) | exact zc49 (by decide) | exact zc60 (by decide) | exact absurd zc39 (by decide) | exact absurd zc49 (by decide) | exact absurd zc60 (by decide)) | (exfalso; simp_all; done)
        · have zs : nI (t + 1) - nI (s / 11 ^ 3 % 11) = nI (t + 1 - s / 11 ^ 3 % 11) := pk_sub (by omega)
          have zw : ck_wd s w t (3 + 1) = ck_wd s w t 3 + (t + 1 - s / 11 ^ 3 % 11) * 11 ^ 3 := if_pos hb1
          have zf : nI (ck_wd s w t 3) + nI (t + 1 - s / 11 ^ 3 % 11) * 1331 = nI (ck_wd s w t (3 + 1)) := by
            rw [show (1331 : Int32) = nI (11 ^ 3) from rfl, pk_mul, nI_add, zw]
          refine hB bX11_windsTo_6 _ _ _ _ _ _ _ kX11_windsTo_6 ?_
          dsimp only [bX11_windsTo_6, kx_wp, kx_step, kx_lI, kx_lL, kx_lA, kx_gl, kx_pI, kx_pL, kx_pR, kx_pA, kx_pV, kx_s1, kx_s2, kx_sl, kx_pre, kx_c2, kx_pl, kx_cmp, kx_oF, kx_eqN, kx_nil, kx_c1, kx_ft, kx_aI, kx_aL, kx_aR, kx_ln, Nat.reduceAdd, Option.toList, List.cons_append, List.nil_append, mW_o, mf_68]
          repeat (simp only [h68, nI_1, hb, zs, zf]; try dsimp only [kx_wp, kx_step, kx_lI, kx_lL, kx_lA, kx_gl, kx_pI, kx_pL, kx_pR, kx_pA, kx_pV, kx_s1, kx_s2, kx_sl, kx_pre, kx_c2, kx_pl, kx_cmp, kx_oF, kx_eqN, kx_nil, kx_c1, kx_ft, kx_aI, kx_aL, kx_aR, kx_ln, Nat.reduceAdd, Option.toList, List.cons_append, List.nil_append, mW_o, mf_68])
          repeat' apply And.intro
          all_goals try (first | with_reducible assumption | (with_reducible refine ck_nzI ?_; simp; done) | (with_reducible refine ck_nzL ?_; simp; done) | (with_reducible refine vp_in_nI ?_ ?_ <;> first | omega | decide) | (with_reducible refine Nat.le_of_ble_eq_true ?_; rfl) | omega)
          · intro zc12
            first | exact absurd rfl zc12 | exact absurd zc12 (by decide) | exact absurd (by decide) zc12 | (exfalso; first | exact absurd zc12 (by first | (simp only [nI_leI (show pk < 2 ^ 31 by omega) (show 3 < 2 ^ 31 by omega)]; omega) | (simp only [nI_leI (show pk < 2 ^ 31 by omega) (show 3 < 2 ^ 31 by omega), Decidable.not_not]; omega)) | exact zc22 (by rw [hb1]; rfl) | exact hb1 ((nI_eq (b := 1) (by omega) (by decide)).mp zc22) | exact hb1 ((nI_eq (b := 1) (by omega) (by decide)).mp (Decidable.not_not.mp zc22)) | exact absurd rfl zc39 | exact zc39 (by decide) | exact zc49 (by decide) | exact zc60 (by decide) | exact absurd zc39 (by decide) | exact absurd zc49 (by decide) | exact absurd zc60 (by decide)) | (exfalso; simp_all; done)
          · intro zc12
            with_reducible first | have ze12 := Int32.not_le.mp zc12 | have ze12 := zc12
            refine hB bX11_windsTo_15 _ _ _ _ _ _ _ kX11_windsTo_15 ?_
            dsimp only [bX11_windsTo_15, kx_wp, kx_step, kx_lI, kx_lL, kx_lA, kx_gl, kx_pI, kx_pL, kx_pR, kx_pA, kx_pV, kx_s1, kx_s2, kx_sl, kx_pre, kx_c2, kx_pl, kx_cmp, kx_oF, kx_eqN, kx_nil, kx_c1, kx_ft, kx_aI, kx_aL, kx_aR, kx_ln, Nat.reduceAdd, Option.toList, List.cons_append, List.nil_append, mW_o, mf_68]
            repeat (simp only [h68, nI_1, hb, zs, zf]; try dsimp only [kx_wp, kx_step, kx_lI, kx_lL, kx_lA, kx_gl, kx_pI, kx_pL, kx_pR, kx_pA, kx_pV, kx_s1, kx_s2, kx_sl, kx_pre, kx_c2, kx_pl, kx_cmp, kx_oF, kx_eqN, kx_nil, kx_c1, kx_ft, kx_aI, kx_aL, kx_aR, kx_ln, Nat.reduceAdd, Option.toList, List.cons_append, List.nil_append, mW_o, mf_68])
            repeat' apply And.intro
            all_goals try (first | with_reducible assumption | (with_reducible refine ck_nzI ?_; simp; done) | (with_reducible refine ck_nzL ?_; simp; done) | (with_reducible refine vp_in_nI ?_ ?_ <;> first | omega | decide) | (with_reducible refine Nat.le_of_ble_eq_true ?_; rfl) | omega)
            · intro zc22
              first | exact absurd rfl zc22 | exact absurd zc22 (by decide) | exact absurd (by decide) zc22 | (exfalso; first | exact absurd zc12 (by first | (simp only [nI_leI (show pk < 2 ^ 31 by omega) (show 3 < 2 ^ 31 by omega)]; omega) | (simp only [nI_leI (show pk < 2 ^ 31 by omega) (show 3 < 2 ^ 31 by omega), Decidable.not_not]; omega)) | exact zc22 (by rw [hb1]; rfl) | exact hb1 ((nI_eq (b := 1) (by omega) (by decide)).mp zc22) | exact hb1 ((nI_eq (b := 1) (by omega) (by decide)).mp (Decidable.not_not.mp zc22)) | exact absurd rfl zc39 | exact zc39 (by decide) | exact zc49 (by decide) | exact zc60 (by decide) | exact absurd zc39 (by decide) | exact absurd zc49 (by decide) | exact absurd zc60 (by decide)) | (exfalso; simp_all; done)
            · intro zc22
              with_reducible first | have ze22 := Decidable.not_not.mp zc22 | have ze22 := zc22
              refine hB bX11_windsTo_25 _ _ _ _ _ _ _ kX11_windsTo_25 ?_
              dsimp only [bX11_windsTo_25, kx_wp, kx_step, kx_lI, kx_lL, kx_lA, kx_gl, kx_pI, kx_pL, kx_pR, kx_pA, kx_pV, kx_s1, kx_s2, kx_sl, kx_pre, kx_c2, kx_pl, kx_cmp, kx_oF, kx_eqN, kx_nil, kx_c1, kx_ft, kx_aI, kx_aL, kx_aR, kx_ln, Nat.reduceAdd, Option.toList, List.cons_append, List.nil_append, mW_o, mf_68]
              repeat (simp only [h68, nI_1, hb, zs, zf]; try dsimp only [kx_wp, kx_step, kx_lI, kx_lL, kx_lA, kx_gl, kx_pI, kx_pL, kx_pR, kx_pA, kx_pV, kx_s1, kx_s2, kx_sl, kx_pre, kx_c2, kx_pl, kx_cmp, kx_oF, kx_eqN, kx_nil, kx_c1, kx_ft, kx_aI, kx_aL, kx_aR, kx_ln, Nat.reduceAdd, Option.toList, List.cons_append, List.nil_append, mW_o, mf_68])
              repeat' apply And.intro
              all_goals try (first | with_reducible assumption | (with_reducible refine ck_nzI ?_; simp; done) | (with_reducible refine ck_nzL ?_; simp; done) | (with_reducible refine vp_in_nI ?_ ?_ <;> first | omega | decide) | (with_reducible refine Nat.le_of_ble_eq_true ?_; rfl) | omega)
              refine hC.2.1 504 _ _ _ _ _ _ _ _ _ _ _ _ _ _ _ _ _ lX11_504 (ct_X11_lastOf l G (i := 3) hs (by decide)) rfl rfl (Nat.le_of_ble_eq_true rfl) (by decide) (by decide) (by omega) (by omega) dX11_windsTo_33 ?_
              refine hB bX11_windsTo_36 _ _ _ _ _ _ _ kX11_windsTo_36 ?_
              dsimp only [bX11_windsTo_36, kx_wp, kx_step, kx_lI, kx_lL, kx_lA, kx_gl, kx_pI, kx_pL, kx_pR, kx_pA, kx_pV, kx_s1, kx_s2, kx_sl, kx_pre, kx_c2, kx_pl, kx_cmp, kx_oF, kx_eqN, kx_nil, kx_c1, kx_ft, kx_aI, kx_aL, kx_aR, kx_ln, Nat.reduceAdd, Option.toList, List.cons_append, List.nil_append, mW_o, mf_68]
              repeat (simp only [h68, nI_1, hb, zs, zf]; try dsimp only [kx_wp, kx_step, kx_lI, kx_lL, kx_lA, kx_gl, kx_pI, kx_pL, kx_pR, kx_pA, kx_pV, kx_s1, kx_s2, kx_sl, kx_pre, kx_c2, kx_pl, kx_cmp, kx_oF, kx_eqN, kx_nil, kx_c1, kx_ft, kx_aI, kx_aL, kx_aR, kx_ln, Nat.reduceAdd, Option.toList, List.cons_append, List.nil_append, mW_o, mf_68])
              repeat' apply And.intro
              all_goals try (first | with_reducible assumption | (with_reducible refine ck_nzI ?_; simp; done) | (with_reducible refine ck_nzL ?_; simp; done) | (with_reducible refine vp_in_nI ?_ ?_ <;> first | omega | decide) | (with_reducible refine Nat.le_of_ble_eq_true ?_; rfl) | omega)
              · intro zc39
                have ze39 := zc39
                refine hB bX11_windsTo_46 _ _ _ _ _ _ _ kX11_windsTo_46 ?_
                dsimp only [bX11_windsTo_46, kx_wp, kx_step, kx_lI, kx_lL, kx_lA, kx_gl, kx_pI, kx_pL, kx_pR, kx_pA, kx_pV, kx_s1, kx_s2, kx_sl, kx_pre, kx_c2, kx_pl, kx_cmp, kx_oF, kx_eqN, kx_nil, kx_c1, kx_ft, kx_aI, kx_aL, kx_aR, kx_ln, Nat.reduceAdd, Option.toList, List.cons_append, List.nil_append, mW_o, mf_68]
                repeat (simp only [h68, nI_1, hb, zs, zf]; try dsimp only [kx_wp, kx_step, kx_lI, kx_lL, kx_lA, kx_gl, kx_pI, kx_pL, kx_pR, kx_pA, kx_pV, kx_s1, kx_s2, kx_sl, kx_pre, kx_c2, kx_pl, kx_cmp, kx_oF, kx_eqN, kx_nil, kx_c1, kx_ft, kx_aI, kx_aL, kx_aR, kx_ln, Nat.reduceAdd, Option.toList, List.cons_append, List.nil_append, mW_o, mf_68])
                repeat' apply And.intro
                all_goals try (first | with_reducible assumption | (with_reducible refine ck_nzI ?_; simp; done) | (with_reducible refine ck_nzL ?_; simp; done) | (with_reducible refine vp_in_nI ?_ ?_ <;> first | omega | decide) | (with_reducible refine Nat.le_of_ble_eq_true ?_; rfl) | omega)
                · intro zc49
                  have ze49 := zc49
                  refine hB bX11_windsTo_57 _ _ _ _ _ _ _ kX11_windsTo_57 ?_
                  dsimp only [bX11_windsTo_57, kx_wp, kx_step, kx_lI, kx_lL, kx_lA, kx_gl, kx_pI, kx_pL, kx_pR, kx_pA, kx_pV, kx_s1, kx_s2, kx_sl, kx_pre, kx_c2, kx_pl, kx_cmp, kx_oF, kx_eqN, kx_nil, kx_c1, kx_ft, kx_aI, kx_aL, kx_aR, kx_ln, Nat.reduceAdd, Option.toList, List.cons_append, List.nil_append, mW_o, mf_68]
                  repeat (simp only [h68, nI_1, hb, zs, zf]; try dsimp only [kx_wp, kx_step, kx_lI, kx_lL, kx_lA, kx_gl, kx_pI, kx_pL, kx_pR, kx_pA, kx_pV, kx_s1, kx_s2, kx_sl, kx_pre, kx_c2, kx_pl, kx_cmp, kx_oF, kx_eqN, kx_nil, kx_c1, kx_ft, kx_aI, kx_aL, kx_aR, kx_ln, Nat.reduceAdd, Option.toList, List.cons_append, List.nil_append, mW_o, mf_68])
                  repeat' apply And.intro
                  all_goals try (first | with_reducible assumption | (with_reducible refine ck_nzI ?_; simp; done) | (with_reducible refine ck_nzL ?_; simp; done) | (with_reducible refine vp_in_nI ?_ ?_ <;> first | omega | decide) | (with_reducible refine Nat.le_of_ble_eq_true ?_; rfl) | omega)
                  · intro zc60
                    have ze60 := zc60
                    refine hB bX11_windsTo_68 _ _ _ _ _ _ _ kX11_windsTo_68 ?_
                    dsimp only [bX11_windsTo_68, kx_wp, kx_step, kx_lI, kx_lL, kx_lA, kx_gl, kx_pI, kx_pL, kx_pR, kx_pA, kx_pV, kx_s1, kx_s2, kx_sl, kx_pre, kx_c2, kx_pl, kx_cmp, kx_oF, kx_eqN, kx_nil, kx_c1, kx_ft, kx_aI, kx_aL, kx_aR, kx_ln, Nat.reduceAdd, Option.toList, List.cons_append, List.nil_append, mW_o, mf_68]
                    repeat (simp only [h68, nI_1, hb, zs, zf]; try dsimp only [kx_wp, kx_step, kx_lI, kx_lL, kx_lA, kx_gl, kx_pI, kx_pL, kx_pR, kx_pA, kx_pV, kx_s1, kx_s2, kx_sl, kx_pre, kx_c2, kx_pl, kx_cmp, kx_oF, kx_eqN, kx_nil, kx_c1, kx_ft, kx_aI, kx_aL, kx_aR, kx_ln, Nat.reduceAdd, Option.toList, List.cons_append, List.nil_append, mW_o, mf_68])
                    repeat' apply And.intro
                    all_goals try (first | with_reducible assumption | (with_reducible refine ck_nzI ?_; simp; done) | (with_reducible refine ck_nzL ?_; simp; done) | (with_reducible refine vp_in_nI ?_ ?_ <;> first | omega | decide) | (with_reducible refine Nat.le_of_ble_eq_true ?_; rfl) | omega)
                    refine hB bX11_windsTo_71 _ _ _ _ _ _ _ kX11_windsTo_71 ?_
                    dsimp only [bX11_windsTo_71, kx_wp, kx_step, kx_lI, kx_lL, kx_lA, kx_gl, kx_pI, kx_pL, kx_pR, kx_pA, kx_pV, kx_s1, kx_s2, kx_sl, kx_pre, kx_c2, kx_pl, kx_cmp, kx_oF, kx_eqN, kx_nil, kx_c1, kx_ft, kx_aI, kx_aL, kx_aR, kx_ln, Nat.reduceAdd, Option.toList, List.cons_append, List.nil_append, mW_o, mf_68]
                    repeat (simp only [h68, nI_1, hb, zs, zf]; try dsimp only [kx_wp, kx_step, kx_lI, kx_lL, kx_lA, kx_gl, kx_pI, kx_pL, kx_pR, kx_pA, kx_pV, kx_s1, kx_s2, kx_sl, kx_pre, kx_c2, kx_pl, kx_cmp, kx_oF, kx_eqN, kx_nil, kx_c1, kx_ft, kx_aI, kx_aL, kx_aR, kx_ln, Nat.reduceAdd, Option.toList, List.cons_append, List.nil_append, mW_o, mf_68])
                    repeat' apply And.intro
                    all_goals try (first | with_reducible assumption | (with_reducible refine ck_nzI ?_; simp; done) | (with_reducible refine ck_nzL ?_; simp; done) | (with_reducible refine vp_in_nI ?_ ?_ <;> first | omega | decide) | (with_reducible refine Nat.le_of_ble_eq_true ?_; rfl) | omega)
                    refine hB bX11_windsTo_75 _ _ _ _ _ _ _ kX11_windsTo_75 ?_
                    dsimp only [bX11_windsTo_75, kx_wp, kx_step, kx_lI, kx_lL, kx_lA, kx_gl, kx_pI, kx_pL, kx_pR, kx_pA, kx_pV, kx_s1, kx_s2, kx_sl, kx_pre, kx_c2, kx_pl, kx_cmp, kx_oF, kx_eqN, kx_nil, kx_c1, kx_ft, kx_aI, kx_aL, kx_aR, kx_ln, Nat.reduceAdd, Option.toList, List.cons_append, List.nil_append, mW_o, mf_68]
                    repeat (simp only [h68, nI_1, hb, zs, zf]; try dsimp only [kx_wp, kx_step, kx_lI, kx_lL, kx_lA, kx_gl, kx_pI, kx_pL, kx_pR, kx_pA, kx_pV, kx_s1, kx_s2, kx_sl, kx_pre, kx_c2, kx_pl, kx_cmp, kx_oF, kx_eqN, kx_nil, kx_c1, kx_ft, kx_aI, kx_aL, kx_aR, kx_ln, Nat.reduceAdd, Option.toList, List.cons_append, List.nil_append, mW_o, mf_68])
                    repeat' apply And.intro
                    all_goals try (first | with_reducible assumption | (with_reducible refine ck_nzI ?_; simp; done) | (with_reducible refine ck_nzL ?_; simp; done) | (with_reducible refine vp_in_nI ?_ ?_ <;> first | omega | decide) | (with_reducible refine Nat.le_of_ble_eq_true ?_; rfl) | omega)
                    all_goals exact zi
                  · intro zc60
                    first | exact absurd rfl zc60 | exact absurd zc60 (by decide) | exact absurd (by decide) zc60 | (exfalso; first | exact absurd zc12 (by first | (simp only [nI_leI (show pk < 2 ^ 31 by omega) (show 3 < 2 ^ 31 by omega)]; omega) | (simp only [nI_leI (show pk < 2 ^ 31 by omega) (show 3 < 2 ^ 31 by omega), Decidable.not_not]; omega)) | exact zc22 (by rw [hb1]; rfl) | exact hb1 ((nI_eq (b := 1) (by omega) (by decide)).mp zc22) | exact hb1 ((nI_eq (b := 1) (by omega) (by decide)).mp (Decidable.not_not.mp zc22)) | exact absurd rfl zc39 | exact zc39 (by decide) | exact zc49 (by decide) | exact zc60 (by decide) | exact absurd zc39 (by decide) | exact absurd zc49 (by decide) | exact absurd zc60 (by decide)) | (exfalso; simp_all; done)
                · intro zc49
                  first | exact absurd rfl zc49 | exact absurd zc49 (by decide) | exact absurd (by decide) zc49 | (exfalso; first | exact absurd zc12 (by first | (simp only [nI_leI (show pk < 2 ^ 31 by omega) (show 3 < 2 ^ 31 by omega)]; omega) | (simp only [nI_leI (show pk < 2 ^ 31 by omega) (show 3 < 2 ^ 31 by omega), Decidable.not_not]; omega)) | exact zc22 (by rw [hb1]; rfl) | exact hb1 ((nI_eq (b := 1) (by omega) (by decide)).mp zc22) | exact hb1 ((nI_eq (b := 1) (by omega) (by decide)).mp (Decidable.not_not.mp zc22)) | exact absurd rfl zc39 | exact zc39 (by decide) | exact zc49 (by decide) | exact zc60 (by decide) | exact absurd zc39 (by decide) | exact absurd zc49 (by decide) | exact absurd zc60 (by decide)) | (exfalso; simp_all; done)
              · intro zc39
                first | exact absurd rfl zc39 | exact absurd zc39 (by decide) | exact absurd (by decide) zc39 | (exfalso; first | exact absurd zc12 (by first | (simp only [nI_leI (show pk < 2 ^ 31 by omega) (show 3 < 2 ^ 31 by omega)]; omega) | (simp only [nI_leI (show pk < 2 ^ 31 by omega) (show 3 < 2 ^ 31 by omega), Decidable.not_not]; omega)) | exact zc22 (by rw [hb1]; rfl) | exact hb1 ((nI_eq (b := 1) (by omega) (by decide)).mp zc22) | exact hb1 ((nI_eq (b := 1) (by omega) (by decide)).mp (Decidable.not_not.mp zc22)) | exact absurd rfl zc39 | exact zc39 (by decide) | exact zc49 (by decide) | exact zc60 (by decide) | exact absurd zc39 (by decide) | exact absurd zc49 (by decide) | exact absurd zc60 (by decide)) | (exfalso; simp_all; done)
      · rw [ck_wd, if_neg hb1] at zi
        refine hB bX11_windsTo_6 _ _ _ _ _ _ _ kX11_windsTo_6 ?_
        dsimp only [bX11_windsTo_6, kx_wp, kx_step, kx_lI, kx_lL, kx_lA, kx_gl, kx_pI, kx_pL, kx_pR, kx_pA, kx_pV, kx_s1, kx_s2, kx_sl, kx_pre, kx_c2, kx_pl, kx_cmp, kx_oF, kx_eqN, kx_nil, kx_c1, kx_ft, kx_aI, kx_aL, kx_aR, kx_ln, Nat.reduceAdd, Option.toList, List.cons_append, List.nil_append, mW_o, mf_68]
        repeat (simp only [h68, nI_1, hb]; try dsimp only [kx_wp, kx_step, kx_lI, kx_lL, kx_lA, kx_gl, kx_pI, kx_pL, kx_pR, kx_pA, kx_pV, kx_s1, kx_s2, kx_sl, kx_pre, kx_c2, kx_pl, kx_cmp, kx_oF, kx_eqN, kx_nil, kx_c1, kx_ft, kx_aI, kx_aL, kx_aR, kx_ln, Nat.reduceAdd, Option.toList, List.cons_append, List.nil_append, mW_o, mf_68])
        repeat' apply And.intro
        all_goals try (first | with_reducible assumption | (with_reducible refine ck_nzI ?_; simp; done) | (with_reducible refine ck_nzL ?_; simp; done) | (with_reducible refine vp_in_nI ?_ ?_ <;> first | omega | decide) | (with_reducible refine Nat.le_of_ble_eq_true ?_; rfl) | omega)
        · intro zc12
          first | exact absurd rfl zc12 | exact absurd zc12 (by decide) | exact absurd (by decide) zc12 | (exfalso; first | exact absurd zc12 (by first | (simp only [nI_leI (show pk < 2 ^ 31 by omega) (show i < 2 ^ 31 by omega)]; omega) | (simp only [nI_leI (show pk < 2 ^ 31 by omega) (show i < 2 ^ 31 by omega), Decidable.not_not]; omega)) | exact zc22 (by rw [hb1]; rfl) | exact hb1 ((nI_eq (b := 1) (by omega) (by decide)).mp zc22) | exact hb1 ((nI_eq (b := 1) (by omega) (by decide)).mp (Decidable.not_not.mp zc22)) | exact absurd rfl zc39 | exact zc39 (by decide) | exact zc49 (by decide) | exact zc60 (by decide) | exact absurd zc39 (by decide) | exact absurd zc49 (by decide) | exact absurd zc60 (by decide)) | (exfalso; simp_all; done)
        · intro zc12
          with_reducible first | have ze12 := Int32.not_le.mp zc12 | have ze12 := zc12
          refine hB bX11_windsTo_15 _ _ _ _ _ _ _ kX11_windsTo_15 ?_
          dsimp only [bX11_windsTo_15, kx_wp, kx_step, kx_lI, kx_lL, kx_lA, kx_gl, kx_pI, kx_pL, kx_pR, kx_pA, kx_pV, kx_s1, kx_s2, kx_sl, kx_pre, kx_c2, kx_pl, kx_cmp, kx_oF, kx_eqN, kx_nil, kx_c1, kx_ft, kx_aI, kx_aL, kx_aR, kx_ln, Nat.reduceAdd, Option.toList, List.cons_append, List.nil_append, mW_o, mf_68]
          repeat (simp only [h68, nI_1, hb]; try dsimp only [kx_wp, kx_step, kx_lI, kx_lL, kx_lA, kx_gl, kx_pI, kx_pL, kx_pR, kx_pA, kx_pV, kx_s1, kx_s2, kx_sl, kx_pre, kx_c2, kx_pl, kx_cmp, kx_oF, kx_eqN, kx_nil, kx_c1, kx_ft, kx_aI, kx_aL, kx_aR, kx_ln, Nat.reduceAdd, Option.toList, List.cons_append, List.nil_append, mW_o, mf_68])
          repeat' apply And.intro
          all_goals try (first | with_reducible assumption | (with_reducible refine ck_nzI ?_; simp; done) | (with_reducible refine ck_nzL ?_; simp; done) | (with_reducible refine vp_in_nI ?_ ?_ <;> first | omega | decide) | (with_reducible refine Nat.le_of_ble_eq_true ?_; rfl) | omega)
          · intro zc22
            have ze22 := zc22
            refine hB bX11_windsTo_75 _ _ _ _ _ _ _ kX11_windsTo_75 ?_
            dsimp only [bX11_windsTo_75, kx_wp, kx_step, kx_lI, kx_lL, kx_lA, kx_gl, kx_pI, kx_pL, kx_pR, kx_pA, kx_pV, kx_s1, kx_s2, kx_sl, kx_pre, kx_c2, kx_pl, kx_cmp, kx_oF, kx_eqN, kx_nil, kx_c1, kx_ft, kx_aI, kx_aL, kx_aR, kx_ln, Nat.reduceAdd, Option.toList, List.cons_append, List.nil_append, mW_o, mf_68]
            repeat (simp only [h68, nI_1, hb]; try dsimp only [kx_wp, kx_step, kx_lI, kx_lL, kx_lA, kx_gl, kx_pI, kx_pL, kx_pR, kx_pA, kx_pV, kx_s1, kx_s2, kx_sl, kx_pre, kx_c2, kx_pl, kx_cmp, kx_oF, kx_eqN, kx_nil, kx_c1, kx_ft, kx_aI, kx_aL, kx_aR, kx_ln, Nat.reduceAdd, Option.toList, List.cons_append, List.nil_append, mW_o, mf_68])
            repeat' apply And.intro
            all_goals try (first | with_reducible assumption | (with_reducible refine ck_nzI ?_; simp; done) | (with_reducible refine ck_nzL ?_; simp; done) | (with_reducible refine vp_in_nI ?_ ?_ <;> first | omega | decide) | (with_reducible refine Nat.le_of_ble_eq_true ?_; rfl) | omega)
            all_goals exact zi
          · intro zc22
            first | exact absurd rfl zc22 | exact absurd zc22 (by decide) | exact absurd (by decide) zc22 | (exfalso; first | exact absurd zc12 (by first | (simp only [nI_leI (show pk < 2 ^ 31 by omega) (show i < 2 ^ 31 by omega)]; omega) | (simp only [nI_leI (show pk < 2 ^ 31 by omega) (show i < 2 ^ 31 by omega), Decidable.not_not]; omega)) | exact zc22 (by rw [hb1]; rfl) | exact hb1 ((nI_eq (b := 1) (by omega) (by decide)).mp zc22) | exact hb1 ((nI_eq (b := 1) (by omega) (by decide)).mp (Decidable.not_not.mp zc22)) | exact absurd rfl zc39 | exact zc39 (by decide) | exact zc49 (by decide) | exact zc60 (by decide) | exact absurd zc39 (by decide) | exact absurd zc49 (by decide) | exact absurd zc60 (by decide)) | (exfalso; simp_all; done)
  refine hB bX11_windsTo_0 _ _ _ _ _ _ _ kX11_windsTo_0 ?_
  dsimp only [bX11_windsTo_0, kx_wp, kx_step, kx_lI, kx_lL, kx_lA, kx_gl, kx_pI, kx_pL, kx_pR, kx_pA, kx_pV, kx_s1, kx_s2, kx_sl, kx_pre, kx_c2, kx_pl, kx_cmp, kx_oF, kx_eqN, kx_nil, kx_c1, kx_ft, kx_aI, kx_aL, kx_aR, kx_ln, Nat.reduceAdd, Option.toList, List.cons_append, List.nil_append, mW_o, mf_68]
  repeat (simp only [h68, nI_1]; try dsimp only [kx_wp, kx_step, kx_lI, kx_lL, kx_lA, kx_gl, kx_pI, kx_pL, kx_pR, kx_pA, kx_pV, kx_s1, kx_s2, kx_sl, kx_pre, kx_c2, kx_pl, kx_cmp, kx_oF, kx_eqN, kx_nil, kx_c1, kx_ft, kx_aI, kx_aL, kx_aR, kx_ln, Nat.reduceAdd, Option.toList, List.cons_append, List.nil_append, mW_o, mf_68])
  repeat' apply And.intro
  all_goals try (first | with_reducible assumption | (with_reducible refine ck_nzI ?_; simp; done) | (with_reducible refine ck_nzL ?_; simp; done) | (with_reducible refine vp_in_nI ?_ ?_ <;> first | omega | decide) | (with_reducible refine Nat.le_of_ble_eq_true ?_; rfl) | omega)
  exact loop6 pk 0 (by omega)

def bX11_clocksOf_0 : List kx_O := [(.iconst 0, 0, 0, 0, .int 0), (.istore_n 2, 2, 0, 0, .null), (.iconst 0, 0, 0, 0, .int 0), (.istore_n 3, 3, 0, 0, .null)]
theorem kX11_clocksOf_0 : kx_oks kxL_X11 false cX11_clocksOf 0 bX11_clocksOf_0 = true := by decide +kernel
def bX11_clocksOf_4 : List kx_O := [(.iload_n 3, 3, 0, 0, .null), (.aload_n 0, 0, 0, 0, .null), (.getfield 501, 11, 68, 0, .null), (.if_icmp .ge 33, 42, 0, 0, .null)]
theorem kX11_clocksOf_4 : kx_oks kxL_X11 false cX11_clocksOf 4 bX11_clocksOf_4 = true := by decide +kernel
def bX11_clocksOf_12 : List kx_O := [(.iload_n 2, 2, 0, 0, .null), (.iload_n 1, 1, 0, 0, .null), (.iload_n 3, 3, 0, 0, .null), (.ishr, 0, 0, 0, .null), (.iconst 1, 0, 0, 0, .int 1), (.iand, 0, 0, 0, .null), (.iconst 1, 0, 0, 0, .int 1), (.if_icmp .ne 14, 33, 0, 0, .null)]
theorem kX11_clocksOf_12 : kx_oks kxL_X11 false cX11_clocksOf 12 bX11_clocksOf_12 = true := by decide +kernel
def bX11_clocksOf_22 : List kx_O := [(.iconst 1, 0, 0, 0, .int 1), (.aload_n 0, 0, 0, 0, .null), (.getfield 121, 11, 69, 0, .null), (.iload_n 3, 3, 0, 0, .null), (.iaload, 0, 0, 0, .null), (.ishl, 0, 0, 0, .null), (.goto 4, 34, 0, 0, .null)]
theorem kX11_clocksOf_22 : kx_oks kxL_X11 false cX11_clocksOf 22 bX11_clocksOf_22 = true := by decide +kernel
def bX11_clocksOf_33 : List kx_O := [(.iconst 0, 0, 0, 0, .int 0)]
theorem kX11_clocksOf_33 : kx_oks kxL_X11 false cX11_clocksOf 33 bX11_clocksOf_33 = true := by decide +kernel
def bX11_clocksOf_34 : List kx_O := [(.ior, 0, 0, 0, .null), (.istore_n 2, 2, 0, 0, .null), (.iinc 3 1, 3, 0, 0, .int 1), (.goto (-35), 4, 0, 0, .null)]
theorem kX11_clocksOf_34 : kx_oks kxL_X11 false cX11_clocksOf 34 bX11_clocksOf_34 = true := by decide +kernel
def bX11_clocksOf_42 : List kx_O := [(.iload_n 2, 2, 0, 0, .null), (.ireturn, 0, 0, 0, .null)]
theorem kX11_clocksOf_42 : kx_oks kxL_X11 false cX11_clocksOf 42 bX11_clocksOf_42 = true := by decide +kernel
set_option maxRecDepth 100000 in
set_option maxHeartbeats 4000000 in
theorem ct_X11_clocksOf (l : Launch) (G : kx_G) {M : Nat → Int32} {A : Nat → Nat → Int32} {L : Nat → Nat → Int64} {R : kx_P} {sz : Nat} {w pk : Nat} (h68 : M 68 = nI pk) (hpk : pk ≤ 4) (hw : w < 256)  : kx_M l G sX11_clocksOf 1 0 0 [.ref 93, .int (nI w)] (mW M A L R) sz (some (.int (ck_co A w pk))) (mW M A L R) sz := by
  refine kx_mk kx_tab kxLok_X11 (ini := false) [some (.ref 93), some (.int (nI w)), none, none] ⟨by decide, rfl, by decide, by decide⟩ (⟨_, rfl⟩) rfl rfl (fun g hB hC => ?_)
  have loop4 : ∀ (n9 i : Nat), i + n9 = pk → g 4 [some (.ref 93), some (.int (nI w)), some (.int (ck_co A w (i))), some (.int (nI (i)))] [] (mW M A L R) sz 0 0 := by
    intro n9
    induction n9 with
    | zero =>
      intro i hi
      obtain rfl : pk = i := by omega
      refine hB bX11_clocksOf_4 _ _ _ _ _ _ _ kX11_clocksOf_4 ?_
      dsimp only [bX11_clocksOf_4, kx_wp, kx_step, kx_lI, kx_lL, kx_lA, kx_gl, kx_pI, kx_pL, kx_pR, kx_pA, kx_pV, kx_s1, kx_s2, kx_sl, kx_pre, kx_c2, kx_pl, kx_cmp, kx_oF, kx_eqN, kx_nil, kx_c1, kx_ft, kx_aI, kx_aL, kx_aR, kx_ln, Nat.reduceAdd, Option.toList, List.cons_append, List.nil_append, mW_o, mf_68, mf_69, m_128]
      repeat (simp only [ms_128, h68, nI_1]; try dsimp only [kx_wp, kx_step, kx_lI, kx_lL, kx_lA, kx_gl, kx_pI, kx_pL, kx_pR, kx_pA, kx_pV, kx_s1, kx_s2, kx_sl, kx_pre, kx_c2, kx_pl, kx_cmp, kx_oF, kx_eqN, kx_nil, kx_c1, kx_ft, kx_aI, kx_aL, kx_aR, kx_ln, Nat.reduceAdd, Option.toList, List.cons_append, List.nil_append, mW_o, mf_68, mf_69, m_128])
      repeat' apply And.intro
      all_goals try (first | with_reducible assumption | (with_reducible refine ck_nzI ?_; simp; done) | (with_reducible refine ck_nzL ?_; simp; done) | (with_reducible refine vp_in_nI ?_ ?_ <;> first | omega | decide) | (with_reducible refine Nat.le_of_ble_eq_true ?_; rfl) | omega)
      · intro zc9
        with_reducible first | have ze9 := Int32.not_lt.mpr zc9 | have ze9 := zc9
        refine hB bX11_clocksOf_42 _ _ _ _ _ _ _ kX11_clocksOf_42 ?_
        dsimp only [bX11_clocksOf_42, kx_wp, kx_step, kx_lI, kx_lL, kx_lA, kx_gl, kx_pI, kx_pL, kx_pR, kx_pA, kx_pV, kx_s1, kx_s2, kx_sl, kx_pre, kx_c2, kx_pl, kx_cmp, kx_oF, kx_eqN, kx_nil, kx_c1, kx_ft, kx_aI, kx_aL, kx_aR, kx_ln, Nat.reduceAdd, Option.toList, List.cons_append, List.nil_append, mW_o, mf_68, mf_69, m_128]
        repeat (simp only [ms_128, h68, nI_1]; try dsimp only [kx_wp, kx_step, kx_lI, kx_lL, kx_lA, kx_gl, kx_pI, kx_pL, kx_pR, kx_pA, kx_pV, kx_s1, kx_s2, kx_sl, kx_pre, kx_c2, kx_pl, kx_cmp, kx_oF, kx_eqN, kx_nil, kx_c1, kx_ft, kx_aI, kx_aL, kx_aR, kx_ln, Nat.reduceAdd, Option.toList, List.cons_append, List.nil_append, mW_o, mf_68, mf_69, m_128])
        all_goals (repeat' apply And.intro)
        all_goals ((try clear hB hC); first | exact True.intro | with_reducible rfl | with_reducible assumption | (with_reducible refine vp_in_nI ?_ ?_ <;> first | omega | decide) | exact Nat.le_of_ble_eq_true rfl | (with_reducible refine ck_nzI ?_; simp; done) | (with_reducible refine ck_nzL ?_; simp; done) | (simp only [pk_us, pk_uLs, zc9, ze9, ↓reduceIte, not_true_eq_false, not_false_eq_true]; done) | (simp only [zc9, ze9, ↓reduceIte, not_true_eq_false, not_false_eq_true]; with_reducible rfl) | skip)
      · intro zc9
        first | exact absurd rfl zc9 | exact absurd zc9 (by decide) | exact absurd (by decide) zc9 | (exfalso; first | exact absurd zc9 (by first | (simp only [nI_leI (show pk < 2 ^ 31 by omega) (show pk < 2 ^ 31 by omega)]; omega) | (simp only [nI_leI (show pk < 2 ^ 31 by omega) (show pk < 2 ^ 31 by omega), Decidable.not_not]; omega))) | (exfalso; simp_all; done)
    | succ n9 ih =>
      intro i hi
      have hb := ck_bt w hw i (by omega)
      have zi := ih (i + 1) (by omega)
      rw [ck_co] at zi
      by_cases hb1 : w / 2 ^ i % 2 = 1
      · rw [if_pos hb1] at zi
        refine hB bX11_clocksOf_4 _ _ _ _ _ _ _ kX11_clocksOf_4 ?_
        dsimp only [bX11_clocksOf_4, kx_wp, kx_step, kx_lI, kx_lL, kx_lA, kx_gl, kx_pI, kx_pL, kx_pR, kx_pA, kx_pV, kx_s1, kx_s2, kx_sl, kx_pre, kx_c2, kx_pl, kx_cmp, kx_oF, kx_eqN, kx_nil, kx_c1, kx_ft, kx_aI, kx_aL, kx_aR, kx_ln, Nat.reduceAdd, Option.toList, List.cons_append, List.nil_append, mW_o, mf_68, mf_69, m_128]
        repeat (simp only [ms_128, h68, nI_1, hb, nI_clamp (show i < 2 ^ 31 by omega)]; try dsimp only [kx_wp, kx_step, kx_lI, kx_lL, kx_lA, kx_gl, kx_pI, kx_pL, kx_pR, kx_pA, kx_pV, kx_s1, kx_s2, kx_sl, kx_pre, kx_c2, kx_pl, kx_cmp, kx_oF, kx_eqN, kx_nil, kx_c1, kx_ft, kx_aI, kx_aL, kx_aR, kx_ln, Nat.reduceAdd, Option.toList, List.cons_append, List.nil_append, mW_o, mf_68, mf_69, m_128])
        repeat' apply And.intro
        all_goals try (first | with_reducible assumption | (with_reducible refine ck_nzI ?_; simp; done) | (with_reducible refine ck_nzL ?_; simp; done) | (with_reducible refine vp_in_nI ?_ ?_ <;> first | omega | decide) | (with_reducible refine Nat.le_of_ble_eq_true ?_; rfl) | omega)
        · intro zc9
          first | exact absurd rfl zc9 | exact absurd zc9 (by decide) | exact absurd (by decide) zc9 | (exfalso; first | exact absurd zc9 (by first | (simp only [nI_leI (show pk < 2 ^ 31 by omega) (show i < 2 ^ 31 by omega)]; omega) | (simp only [nI_leI (show pk < 2 ^ 31 by omega) (show i < 2 ^ 31 by omega), Decidable.not_not]; omega)) | exact zc19 (by rw [hb1]; rfl) | exact hb1 ((nI_eq (b := 1) (by omega) (by decide)).mp zc19) | exact hb1 ((nI_eq (b := 1) (by omega) (by decide)).mp (Decidable.not_not.mp zc19))) | (exfalso; simp_all; done)
        · intro zc9
          with_reducible first | have ze9 := Int32.not_le.mp zc9 | have ze9 := zc9
          refine hB bX11_clocksOf_12 _ _ _ _ _ _ _ kX11_clocksOf_12 ?_
          dsimp only [bX11_clocksOf_12, kx_wp, kx_step, kx_lI, kx_lL, kx_lA, kx_gl, kx_pI, kx_pL, kx_pR, kx_pA, kx_pV, kx_s1, kx_s2, kx_sl, kx_pre, kx_c2, kx_pl, kx_cmp, kx_oF, kx_eqN, kx_nil, kx_c1, kx_ft, kx_aI, kx_aL, kx_aR, kx_ln, Nat.reduceAdd, Option.toList, List.cons_append, List.nil_append, mW_o, mf_68, mf_69, m_128]
          repeat (simp only [ms_128, h68, nI_1, hb, nI_clamp (show i < 2 ^ 31 by omega)]; try dsimp only [kx_wp, kx_step, kx_lI, kx_lL, kx_lA, kx_gl, kx_pI, kx_pL, kx_pR, kx_pA, kx_pV, kx_s1, kx_s2, kx_sl, kx_pre, kx_c2, kx_pl, kx_cmp, kx_oF, kx_eqN, kx_nil, kx_c1, kx_ft, kx_aI, kx_aL, kx_aR, kx_ln, Nat.reduceAdd, Option.toList, List.cons_append, List.nil_append, mW_o, mf_68, mf_69, m_128])
          repeat' apply And.intro
          all_goals try (first | with_reducible assumption | (with_reducible refine ck_nzI ?_; simp; done) | (with_reducible refine ck_nzL ?_; simp; done) | (with_reducible refine vp_in_nI ?_ ?_ <;> first | omega | decide) | (with_reducible refine Nat.le_of_ble_eq_true ?_; rfl) | omega)
          · intro zc19
            first | exact absurd rfl zc19 | exact absurd zc19 (by decide) | exact absurd (by decide) zc19 | (exfalso; first | exact absurd zc9 (by first | (simp only [nI_leI (show pk < 2 ^ 31 by omega) (show i < 2 ^ 31 by omega)]; omega) | (simp only [nI_leI (show pk < 2 ^ 31 by omega) (show i < 2 ^ 31 by omega), Decidable.not_not]; omega)) | exact zc19 (by rw [hb1]; rfl) | exact hb1 ((nI_eq (b := 1) (by omega) (by decide)).mp zc19) | exact hb1 ((nI_eq (b := 1) (by omega) (by decide)).mp (Decidable.not_not.mp zc19))) | (exfalso; simp_all; done)
          · intro zc19
            with_reducible first | have ze19 := Decidable.not_not.mp zc19 | have ze19 := zc19
            refine hB bX11_clocksOf_22 _ _ _ _ _ _ _ kX11_clocksOf_22 ?_
            dsimp only [bX11_clocksOf_22, kx_wp, kx_step, kx_lI, kx_lL, kx_lA, kx_gl, kx_pI, kx_pL, kx_pR, kx_pA, kx_pV, kx_s1, kx_s2, kx_sl, kx_pre, kx_c2, kx_pl, kx_cmp, kx_oF, kx_eqN, kx_nil, kx_c1, kx_ft, kx_aI, kx_aL, kx_aR, kx_ln, Nat.reduceAdd, Option.toList, List.cons_append, List.nil_append, mW_o, mf_68, mf_69, m_128]
            repeat (simp only [ms_128, h68, nI_1, hb, nI_clamp (show i < 2 ^ 31 by omega)]; try dsimp only [kx_wp, kx_step, kx_lI, kx_lL, kx_lA, kx_gl, kx_pI, kx_pL, kx_pR, kx_pA, kx_pV, kx_s1, kx_s2, kx_sl, kx_pre, kx_c2, kx_pl, kx_cmp, kx_oF, kx_eqN, kx_nil, kx_c1, kx_ft, kx_aI, kx_aL, kx_aR, kx_ln, Nat.reduceAdd, Option.toList, List.cons_append, List.nil_append, mW_o, mf_68, mf_69, m_128])
            repeat' apply And.intro
            all_goals try (first | with_reducible assumption | (with_reducible refine ck_nzI ?_; simp; done) | (with_reducible refine ck_nzL ?_; simp; done) | (with_reducible refine vp_in_nI ?_ ?_ <;> first | omega | decide) | (with_reducible refine Nat.le_of_ble_eq_true ?_; rfl) | omega)
            refine hB bX11_clocksOf_34 _ _ _ _ _ _ _ kX11_clocksOf_34 ?_
            dsimp only [bX11_clocksOf_34, kx_wp, kx_step, kx_lI, kx_lL, kx_lA, kx_gl, kx_pI, kx_pL, kx_pR, kx_pA, kx_pV, kx_s1, kx_s2, kx_sl, kx_pre, kx_c2, kx_pl, kx_cmp, kx_oF, kx_eqN, kx_nil, kx_c1, kx_ft, kx_aI, kx_aL, kx_aR, kx_ln, Nat.reduceAdd, Option.toList, List.cons_append, List.nil_append, mW_o, mf_68, mf_69, m_128]
            repeat (simp only [ms_128, h68, nI_1, hb, nI_clamp (show i < 2 ^ 31 by omega)]; try dsimp only [kx_wp, kx_step, kx_lI, kx_lL, kx_lA, kx_gl, kx_pI, kx_pL, kx_pR, kx_pA, kx_pV, kx_s1, kx_s2, kx_sl, kx_pre, kx_c2, kx_pl, kx_cmp, kx_oF, kx_eqN, kx_nil, kx_c1, kx_ft, kx_aI, kx_aL, kx_aR, kx_ln, Nat.reduceAdd, Option.toList, List.cons_append, List.nil_append, mW_o, mf_68, mf_69, m_128])
            repeat' apply And.intro
            all_goals try (first | with_reducible assumption | (with_reducible refine ck_nzI ?_; simp; done) | (with_reducible refine ck_nzL ?_; simp; done) | (with_reducible refine vp_in_nI ?_ ?_ <;> first | omega | decide) | (with_reducible refine Nat.le_of_ble_eq_true ?_; rfl) | omega)
            all_goals exact zi
      · rw [if_neg hb1] at zi
        refine hB bX11_clocksOf_4 _ _ _ _ _ _ _ kX11_clocksOf_4 ?_
        dsimp only [bX11_clocksOf_4, kx_wp, kx_step, kx_lI, kx_lL, kx_lA, kx_gl, kx_pI, kx_pL, kx_pR, kx_pA, kx_pV, kx_s1, kx_s2, kx_sl, kx_pre, kx_c2, kx_pl, kx_cmp, kx_oF, kx_eqN, kx_nil, kx_c1, kx_ft, kx_aI, kx_aL, kx_aR, kx_ln, Nat.reduceAdd, Option.toList, List.cons_append, List.nil_append, mW_o, mf_68, mf_69, m_128]
        repeat (simp only [ms_128, h68, nI_1, hb, nI_clamp (show i < 2 ^ 31 by omega)]; try dsimp only [kx_wp, kx_step, kx_lI, kx_lL, kx_lA, kx_gl, kx_pI, kx_pL, kx_pR, kx_pA, kx_pV, kx_s1, kx_s2, kx_sl, kx_pre, kx_c2, kx_pl, kx_cmp, kx_oF, kx_eqN, kx_nil, kx_c1, kx_ft, kx_aI, kx_aL, kx_aR, kx_ln, Nat.reduceAdd, Option.toList, List.cons_append, List.nil_append, mW_o, mf_68, mf_69, m_128])
        repeat' apply And.intro
        all_goals try (first | with_reducible assumption | (with_reducible refine ck_nzI ?_; simp; done) | (with_reducible refine ck_nzL ?_; simp; done) | (with_reducible refine vp_in_nI ?_ ?_ <;> first | omega | decide) | (with_reducible refine Nat.le_of_ble_eq_true ?_; rfl) | omega)
        · intro zc9
          first | exact absurd rfl zc9 | exact absurd zc9 (by decide) | exact absurd (by decide) zc9 | (exfalso; first | exact absurd zc9 (by first | (simp only [nI_leI (show pk < 2 ^ 31 by omega) (show i < 2 ^ 31 by omega)]; omega) | (simp only [nI_leI (show pk < 2 ^ 31 by omega) (show i < 2 ^ 31 by omega), Decidable.not_not]; omega)) | exact zc19 (by rw [hb1]; rfl) | exact hb1 ((nI_eq (b := 1) (by omega) (by decide)).mp zc19) | exact hb1 ((nI_eq (b := 1) (by omega) (by decide)).mp (Decidable.not_not.mp zc19))) | (exfalso; simp_all; done)
        · intro zc9
          with_reducible first | have ze9 := Int32.not_le.mp zc9 | have ze9 := zc9
          refine hB bX11_clocksOf_12 _ _ _ _ _ _ _ kX11_clocksOf_12 ?_
          dsimp only [bX11_clocksOf_12, kx_wp, kx_step, kx_lI, kx_lL, kx_lA, kx_gl, kx_pI, kx_pL, kx_pR, kx_pA, kx_pV, kx_s1, kx_s2, kx_sl, kx_pre, kx_c2, kx_pl, kx_cmp, kx_oF, kx_eqN, kx_nil, kx_c1, kx_ft, kx_aI, kx_aL, kx_aR, kx_ln, Nat.reduceAdd, Option.toList, List.cons_append, List.nil_append, mW_o, mf_68, mf_69, m_128]
          repeat (simp only [ms_128, h68, nI_1, hb, nI_clamp (show i < 2 ^ 31 by omega)]; try dsimp only [kx_wp, kx_step, kx_lI, kx_lL, kx_lA, kx_gl, kx_pI, kx_pL, kx_pR, kx_pA, kx_pV, kx_s1, kx_s2, kx_sl, kx_pre, kx_c2, kx_pl, kx_cmp, kx_oF, kx_eqN, kx_nil, kx_c1, kx_ft, kx_aI, kx_aL, kx_aR, kx_ln, Nat.reduceAdd, Option.toList, List.cons_append, List.nil_append, mW_o, mf_68, mf_69, m_128])
          repeat' apply And.intro
          all_goals try (first | with_reducible assumption | (with_reducible refine ck_nzI ?_; simp; done) | (with_reducible refine ck_nzL ?_; simp; done) | (with_reducible refine vp_in_nI ?_ ?_ <;> first | omega | decide) | (with_reducible refine Nat.le_of_ble_eq_true ?_; rfl) | omega)
          · intro zc19
            have ze19 := zc19
            refine hB bX11_clocksOf_33 _ _ _ _ _ _ _ kX11_clocksOf_33 ?_
            dsimp only [bX11_clocksOf_33, kx_wp, kx_step, kx_lI, kx_lL, kx_lA, kx_gl, kx_pI, kx_pL, kx_pR, kx_pA, kx_pV, kx_s1, kx_s2, kx_sl, kx_pre, kx_c2, kx_pl, kx_cmp, kx_oF, kx_eqN, kx_nil, kx_c1, kx_ft, kx_aI, kx_aL, kx_aR, kx_ln, Nat.reduceAdd, Option.toList, List.cons_append, List.nil_append, mW_o, mf_68, mf_69, m_128]
            repeat (simp only [ms_128, h68, nI_1, hb, nI_clamp (show i < 2 ^ 31 by omega)]; try dsimp only [kx_wp, kx_step, kx_lI, kx_lL, kx_lA, kx_gl, kx_pI, kx_pL, kx_pR, kx_pA, kx_pV, kx_s1, kx_s2, kx_sl, kx_pre, kx_c2, kx_pl, kx_cmp, kx_oF, kx_eqN, kx_nil, kx_c1, kx_ft, kx_aI, kx_aL, kx_aR, kx_ln, Nat.reduceAdd, Option.toList, List.cons_append, List.nil_append, mW_o, mf_68, mf_69, m_128])
            repeat' apply And.intro
            all_goals try (first | with_reducible assumption | (with_reducible refine ck_nzI ?_; simp; done) | (with_reducible refine ck_nzL ?_; simp; done) | (with_reducible refine vp_in_nI ?_ ?_ <;> first | omega | decide) | (with_reducible refine Nat.le_of_ble_eq_true ?_; rfl) | omega)
            refine hB bX11_clocksOf_34 _ _ _ _ _ _ _ kX11_clocksOf_34 ?_
            dsimp only [bX11_clocksOf_34, kx_wp, kx_step, kx_lI, kx_lL, kx_lA, kx_gl, kx_pI, kx_pL, kx_pR, kx_pA, kx_pV, kx_s1, kx_s2, kx_sl, kx_pre, kx_c2, kx_pl, kx_cmp, kx_oF, kx_eqN, kx_nil, kx_c1, kx_ft, kx_aI, kx_aL, kx_aR, kx_ln, Nat.reduceAdd, Option.toList, List.cons_append, List.nil_append, mW_o, mf_68, mf_69, m_128]
            repeat (simp only [ms_128, h68, nI_1, hb, nI_clamp (show i < 2 ^ 31 by omega)]; try dsimp only [kx_wp, kx_step, kx_lI, kx_lL, kx_lA, kx_gl, kx_pI, kx_pL, kx_pR, kx_pA, kx_pV, kx_s1, kx_s2, kx_sl, kx_pre, kx_c2, kx_pl, kx_cmp, kx_oF, kx_eqN, kx_nil, kx_c1, kx_ft, kx_aI, kx_aL, kx_aR, kx_ln, Nat.reduceAdd, Option.toList, List.cons_append, List.nil_append, mW_o, mf_68, mf_69, m_128])
            repeat' apply And.intro
            all_goals try (first | with_reducible assumption | (with_reducible refine ck_nzI ?_; simp; done) | (with_reducible refine ck_nzL ?_; simp; done) | (with_reducible refine vp_in_nI ?_ ?_ <;> first | omega | decide) | (with_reducible refine Nat.le_of_ble_eq_true ?_; rfl) | omega)
            all_goals exact zi
          · intro zc19
            first | exact absurd rfl zc19 | exact absurd zc19 (by decide) | exact absurd (by decide) zc19 | (exfalso; first | exact absurd zc9 (by first | (simp only [nI_leI (show pk < 2 ^ 31 by omega) (show i < 2 ^ 31 by omega)]; omega) | (simp only [nI_leI (show pk < 2 ^ 31 by omega) (show i < 2 ^ 31 by omega), Decidable.not_not]; omega)) | exact zc19 (by rw [hb1]; rfl) | exact hb1 ((nI_eq (b := 1) (by omega) (by decide)).mp zc19) | exact hb1 ((nI_eq (b := 1) (by omega) (by decide)).mp (Decidable.not_not.mp zc19))) | (exfalso; simp_all; done)
  refine hB bX11_clocksOf_0 _ _ _ _ _ _ _ kX11_clocksOf_0 ?_
  dsimp only [bX11_clocksOf_0, kx_wp, kx_step, kx_lI, kx_lL, kx_lA, kx_gl, kx_pI, kx_pL, kx_pR, kx_pA, kx_pV, kx_s1, kx_s2, kx_sl, kx_pre, kx_c2, kx_pl, kx_cmp, kx_oF, kx_eqN, kx_nil, kx_c1, kx_ft, kx_aI, kx_aL, kx_aR, kx_ln, Nat.reduceAdd, Option.toList, List.cons_append, List.nil_append, mW_o, mf_68, mf_69, m_128]
  repeat (simp only [ms_128, h68, nI_1]; try dsimp only [kx_wp, kx_step, kx_lI, kx_lL, kx_lA, kx_gl, kx_pI, kx_pL, kx_pR, kx_pA, kx_pV, kx_s1, kx_s2, kx_sl, kx_pre, kx_c2, kx_pl, kx_cmp, kx_oF, kx_eqN, kx_nil, kx_c1, kx_ft, kx_aI, kx_aL, kx_aR, kx_ln, Nat.reduceAdd, Option.toList, List.cons_append, List.nil_append, mW_o, mf_68, mf_69, m_128])
  repeat' apply And.intro
  all_goals try (first | with_reducible assumption | (with_reducible refine ck_nzI ?_; simp; done) | (with_reducible refine ck_nzL ?_; simp; done) | (with_reducible refine vp_in_nI ?_ ?_ <;> first | omega | decide) | (with_reducible refine Nat.le_of_ble_eq_true ?_; rfl) | omega)
  exact loop4 pk 0 (by omega)


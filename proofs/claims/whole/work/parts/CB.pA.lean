/-! PURE: what a text without a fault keeps to: heights of a rack's stack, ranges of numbers. -/
def okh (S : ck_R) (h : Nat) : Prop := (∀ k, k < S.2.2.2.2.1 → ck_rko (S.2.2.2.2.2.1 k) (ck_ht S.2.2.2.2.2.1 k)) ∧ ck_ht S.2.2.2.2.2.1 S.2.2.2.2.1 = h
def cH (n b N : Nat) (F : ck_R → ck_R) : Prop := ∀ S, ck_sl n 0 S → ck_lv N S → (F S).2.1 = -1 → ∀ h, okh S h → h ≤ b → okh (F S) (h + 1)
theorem okh_cg {S S2 : ck_R} {h : Nat} (ho : okh S h) (e : S2.2.2.2.2 = S.2.2.2.2) : okh S2 h := by
  unfold okh
  rw [e]
  exact ho
theorem cH_em {S : ck_R} {h : Nat} {w x : Int32} (ho : okh S h) (hr : ck_rko w h) : okh (ck_emR w x S) (if w ≤ 3 then h + 1 else if 9 ≤ w then h - 3 else h - 1) := by
  obtain ⟨h1, h2⟩ := ho
  have e : ∀ k, k ≤ S.2.2.2.2.1 → ck_ht (upd S.2.2.2.2.2.1 S.2.2.2.2.1 w) k = ck_ht S.2.2.2.2.2.1 k := fun k hk => ck_ht_cg k (fun j hj => pk_un (by omega))
  refine ⟨fun k hk => ?_, ?_⟩
  · have hk : k < S.2.2.2.2.1 + 1 := hk
    show ck_rko (upd S.2.2.2.2.2.1 S.2.2.2.2.1 w k) (ck_ht (upd S.2.2.2.2.2.1 S.2.2.2.2.1 w) k)
    rw [e k (by omega)]
    by_cases c : k = S.2.2.2.2.1
    · rw [c, pk_us, h2]; exact hr
    · rw [pk_un c]; exact h1 k (by omega)
  · show ck_ht (upd S.2.2.2.2.2.1 S.2.2.2.2.1 w) (S.2.2.2.2.1 + 1) = _
    rw [ck_ht, e _ (Nat.le_refl _), pk_us, h2]
theorem cH_cmp {T : Nat → Int32} {n : Nat} {S : ck_R} : (ck_cmp T n S).2.2.2.2.2 = S.2.2.2.2 := by
  unfold ck_cmp
  split
  · dsimp only
    split <;> rfl
  · rfl
theorem sl0 {n j : Nat} {S : ck_R} (h : ck_sl n j S) : ck_sl n 0 S := ⟨h.1, fun e => by have := h.2 e; omega⟩
theorem lv_g1 {n j N : Nat} {S S2 : ck_R} (g : ck_g1 n j S S2) (h : ck_lv N S) : ck_lv N S2 := by
  intro hb
  obtain ⟨e1, e2⟩ := g.2.1 hb
  rw [e2]
  exact h e1
theorem lv_op {T : Nat → Int32} {n N : Nat} {S : ck_R} (hn : n < 2 ^ 31) (hs : ck_sl n 0 S) (h : ck_lv (N + 1) S) : ck_lv N (ck_opR T n S) := by
  intro hb
  obtain ⟨e1, e2, e3⟩ := (ck_op_sl (T := T) hn hs).2.1 hb
  obtain ⟨q, h1, h2, h3⟩ := h e1
  have hq : ¬ q = 8 := fun z => e2 (by rw [h1, z]; rfl)
  exact ⟨q + 1, by rw [e3, h1, nI_1], by omega, by omega⟩
theorem cH_br {T : Nat → Int32} {n b N : Nat} {W : ck_R → ck_R} (hn : n < 2 ^ 31) (hg : ck_gd n W) (hW : cH n b N W) {S : ck_R} (hs : ck_sl n 0 S) (hl : ck_lv (N + 1) S) (hf : (ck_br T n W S).2.1 = -1) {h : Nat} (ho : okh S h) (hb : h + 3 ≤ b) (hb2 : b ≤ 60) : okh (ck_br T n W S) (h + 1) := by
  obtain ⟨s0, f0, m0⟩ := ck_op_sl (T := T) hn hs
  have l0 := lv_op (T := T) hn hs hl
  have g1 := hg _ _ s0
  have l1 := lv_g1 g1 l0
  have g2 := ck_cmp_sl (T := T) hn g1.1
  have l2 := lv_g1 g2 l1
  have g3 := hg _ _ g2.1
  have l3 := lv_g1 g3 l2
  have g4 := ck_ne_sl (T := T) (ch := 44) (by decide) hn g3.1
  have l4 := lv_g1 (n := n) (j := 0 + 1) (S2 := ck_neR T n 44 _) ⟨g4.1, g4.2.1, g4.2.2⟩ l3
  have g5 := hg _ _ g4.1
  have l5 := lv_g1 g5 l4
  have g6 := ck_ne_sl (T := T) (ch := 44) (by decide) hn g5.1
  have l6 := lv_g1 (n := n) (j := 0 + 1) (S2 := ck_neR T n 44 _) ⟨g6.1, g6.2.1, g6.2.2⟩ l5
  have g7 := hg _ _ g6.1
  obtain ⟨s8, f8, m8⟩ := ck_cl_sl (T := T) hn g7.1
  unfold ck_br at hf ⊢
  try dsimp only at hf ⊢
  have e9 : (ck_clR T n (W (ck_neR T n 44 (W (ck_neR T n 44 (W (ck_cmp T n (W (ck_opR T n S))).2)))))).2.1 = -1 := by
    split at hf
    · assumption
    · exact hf
  have e7 := (f8 e9).1
  have e6 := (g7.2.1 e7).1
  have e5 := (g6.2.1 e6).1
  have e4 := (g5.2.1 e5).1
  have e3 := (g4.2.1 e4).1
  have e2 := (g3.2.1 e3).1
  have e1 := (g2.2.1 e2).1
  rw [if_pos e9]
  have o1 := hW _ (sl0 s0) l0 e1 h (okh_cg ho rfl) (by omega)
  have o3 := hW _ (sl0 g2.1) l2 e3 (h + 1) (okh_cg o1 cH_cmp) (by omega)
  have o5 := hW _ (sl0 g4.1) l4 e5 (h + 1 + 1) (okh_cg o3 rfl) (by omega)
  have o7 := hW _ (sl0 g6.1) l6 e7 (h + 1 + 1 + 1) (okh_cg o5 rfl) (by omega)
  have o9 : okh (ck_clR T n (W (ck_neR T n 44 (W (ck_neR T n 44 (W (ck_cmp T n (W (ck_opR T n S))).2)))))) (h + 1 + 1 + 1 + 1) := okh_cg o7 rfl
  have hc : ∀ q : Int32, ∃ c : Int32, (if q = 60 then (9 : Int32) else if q = 62 then 10 else 11) = c ∧ ¬ c ≤ 3 ∧ 9 ≤ c := by
    intro q
    split
    · exact ⟨9, rfl, by decide, by decide⟩
    · split
      · exact ⟨10, rfl, by decide, by decide⟩
      · exact ⟨11, rfl, by decide, by decide⟩
  obtain ⟨c, hc0, hc1, hc2⟩ := hc (ck_cmp T n (W (ck_opR T n S))).1
  rw [hc0]
  have := cH_em (w := c) (x := 0) o9 ⟨by omega, fun z => absurd z hc1, fun _ _ => by omega, fun _ z => absurd hc2 z⟩
  rw [if_neg hc1, if_pos hc2] at this
  exact this
theorem cH_un {T : Nat → Int32} {n b N : Nat} {W : ck_R → ck_R} (hn : n < 2 ^ 31) (hg : ck_gd n W) (hW : cH n b N W) (h3 : 3 ≤ b) (hb2 : b ≤ 60) : cH n (b - 3) (N + 1) (ck_un T n W) := by
  intro S hs hl hf h ho hb
  have hk := ck_sk_le T hs.1
  unfold ck_un at hf ⊢
  by_cases hb0 : S.2.1 = -1
  · rw [if_pos hb0] at hf ⊢
    have s1 : ck_sl n 0 (ck_sk T n S.1, S.2) := ⟨hk.2, fun _ => by have := hs.2 hb0; show S.2.2.2.2.1 + 0 ≤ ck_sk T n S.1; omega⟩
    have em : ∀ (w x : Int32) (S2 : ck_R), w ≤ 3 → S2.2.2.2.2 = S.2.2.2.2 → okh (ck_emR w x S2) (h + 1) := by
      intro w x S2 hw e
      have := cH_em (w := w) (x := x) (okh_cg ho e) ⟨by omega, fun _ => by omega, fun z => absurd hw z, fun z => absurd hw z⟩
      rw [if_pos hw] at this
      exact this
    by_cases hd : 48 ≤ ck_hcx T n S.1 ∧ ck_hcx T n S.1 ≤ 57
    · rw [if_pos hd] at hf ⊢
      by_cases hr : (ck_num T n 0 99 (ck_sk T n S.1) (-1) S.2.2.1).2.2.1 = -1
      · rw [if_pos hr]
        exact em _ _ _ (by decide) rfl
      · rw [if_neg hr] at hf
        exact absurd hf hr
    · rw [if_neg hd] at hf ⊢
      by_cases hc : ck_hcx T n S.1 = 40
      · rw [if_pos hc] at hf ⊢
        obtain ⟨s0, f0, m0⟩ := ck_op_sl (T := T) hn s1
        have l0 := lv_op (T := T) hn s1 (show ck_lv (N + 1) (ck_sk T n S.1, S.2) from hl)
        have g1 := hg _ _ s0
        obtain ⟨s8, f8, m8⟩ := ck_cl_sl (T := T) hn g1.1
        have e1 := (f8 hf).1
        exact okh_cg (hW _ (sl0 s0) l0 e1 h (okh_cg ho rfl) (by omega)) rfl
      · rw [if_neg hc] at hf ⊢
        by_cases hw : ck_wo_ T n (ck_sk T n S.1) = 278194 ∨ ck_wo_ T n (ck_sk T n S.1) = 132741 ∨ ck_wo_ T n (ck_sk T n S.1) = 14137992 ∨ ck_wo_ T n (ck_sk T n S.1) = 294
        · rw [if_pos hw] at hf ⊢
          have hp2 := ck_ps_le T (n := n) (a := ck_sk T n S.1) hk.2
          have s2 : ck_sl n 0 (ck_ps T n (ck_sk T n S.1), S.2) := ⟨hp2.2, fun _ => by have := hs.2 hb0; show S.2.2.2.2.1 + 0 ≤ ck_ps T n (ck_sk T n S.1); omega⟩
          by_cases h9 : ck_wo_ T n (ck_sk T n S.1) = 294
          · rw [if_pos h9] at hf ⊢
            exact cH_br hn hg hW s2 (show ck_lv (N + 1) (ck_ps T n (ck_sk T n S.1), S.2) from hl) hf (okh_cg ho rfl) (by omega) hb2
          · rw [if_neg h9] at hf ⊢
            refine em _ _ _ ?_ rfl
            split
            · decide
            · split <;> decide
        · rw [if_neg hw] at hf
          exact absurd hf (ck_jm (Nat.lt_of_le_of_lt hk.2 hn))
  · rw [if_neg hb0] at hf
    exact absurd hf hb0
theorem ex_bad {T : Nat → Int32} {n : Nat} {S : ck_R} (h : (ck_ex T n S).2.1 = -1) : okh (ck_ex T n S) = okh S := by
  unfold ck_ex
  split
  · rfl
  · rfl
theorem cH_one {T : Nat → Int32} {n b N : Nat} {U : ck_R → ck_R} (hg : ck_gd n U) (hU : cH n b N U) {w : Int32} (hw1 : ¬ w ≤ 3) (hw2 : ¬ 9 ≤ w) {S : ck_R} (hs : ck_sl n 0 S) (hl : ck_lv N S) (hb : S.2.1 = -1) (hc : ¬ ck_hcx T n S.1 = 0) (hf : (ck_one T n U w S).2.1 = -1) {h : Nat} (ho : okh S (h + 1)) (hh : h + 1 ≤ b) (hb2 : b ≤ 60) : okh (ck_one T n U w S) (h + 1) := by
  have hk := ck_sk_le T hs.1
  have hlt : ck_sk T n S.1 < n := by
    unfold ck_hcx at hc
    by_cases h : ck_sk T n S.1 < n
    · exact h
    · rw [if_neg h] at hc; exact absurd rfl hc
  have s1 : ck_sl n 0 (ck_sk T n S.1 + 1, S.2) := ⟨by show ck_sk T n S.1 + 1 ≤ n; omega, fun _ => by have := hs.2 hb; show S.2.2.2.2.1 + 0 ≤ ck_sk T n S.1 + 1; omega⟩
  have l1 : ck_lv N (ck_sk T n S.1 + 1, S.2) := hl
  unfold ck_one at hf ⊢
  by_cases hu : (U (ck_sk T n S.1 + 1, S.2)).2.1 = -1
  · rw [if_pos hu]
    have o1 := hU _ s1 l1 hu (h + 1) (okh_cg ho rfl) hh
    have := cH_em (w := w) (x := 0) o1 ⟨by omega, fun z => absurd z hw1, fun _ z => absurd z hw2, fun _ _ => by omega⟩
    rw [if_neg hw1, if_neg hw2] at this
    exact this
  · rw [if_neg hu] at hf
    exact absurd hf hu
theorem cH_lpt {T : Nat → Int32} {n b N : Nat} {U : ck_R → ck_R} (hg : ck_gd n U) (hU : cH n b N U) (hb2 : b ≤ 60) : ∀ f S, ck_sl n 0 S → ck_lv N S → (ck_lpt T n U f S).2.1 = -1 → ∀ h, okh S (h + 1) → h + 1 ≤ b → okh (ck_lpt T n U f S) (h + 1) := by
  intro f
  induction f with
  | zero => intro S _ _ hf h ho _; rw [ck_lpt] at hf ⊢; rw [ex_bad hf]; exact ho
  | succ f ih =>
    intro S hs hl hf h ho hh
    rw [ck_lpt] at hf ⊢
    by_cases hc : S.2.1 = -1 ∧ (ck_hcx T n S.1 = 42 ∨ ck_hcx T n S.1 = 47 ∨ ck_hcx T n S.1 = 37)
    · rw [if_pos hc] at hf ⊢
      have h0 : ¬ ck_hcx T n S.1 = 0 := fun e => by have h := hc.2; rw [e] at h; revert h; decide
      have hw : ∃ w : Int32, (if ck_hcx T n S.1 = 42 then (6 : Int32) else if ck_hcx T n S.1 = 47 then 7 else 8) = w ∧ ¬ w ≤ 3 ∧ ¬ 9 ≤ w := by
        split
        · exact ⟨6, rfl, by decide, by decide⟩
        · split
          · exact ⟨7, rfl, by decide, by decide⟩
          · exact ⟨8, rfl, by decide, by decide⟩
      obtain ⟨w, hw0, hw1, hw2⟩ := hw
      rw [hw0] at hf ⊢
      have g := (ck_one_g (w := w) hg hs hc.1 h0).1
      have g2 := ck_lpt_g (T := T) hg f _ g.1
      exact ih _ g.1 (lv_g1 g hl) hf h (cH_one hg hU hw1 hw2 hs hl hc.1 h0 (g2.2.1 hf).1 ho hh hb2) hh
    · rw [if_neg hc] at hf ⊢
      rw [ex_bad hf]; exact ho
theorem cH_lpw {T : Nat → Int32} {n b N : Nat} {U : ck_R → ck_R} (hg : ck_gd n U) (hU : cH n b N U) (hb2 : b ≤ 60) : ∀ f S, ck_sl n 0 S → ck_lv N S → (ck_lpw T n U f S).2.1 = -1 → ∀ h, okh S (h + 1) → h + 1 ≤ b → okh (ck_lpw T n U f S) (h + 1) := by
  intro f
  induction f with
  | zero => intro S _ _ hf h ho _; rw [ck_lpw] at hf ⊢; rw [ex_bad hf]; exact ho
  | succ f ih =>
    intro S hs hl hf h ho hh
    rw [ck_lpw] at hf ⊢
    by_cases hc : S.2.1 = -1 ∧ (ck_hcx T n S.1 = 43 ∨ ck_hcx T n S.1 = 45)
    · rw [if_pos hc] at hf ⊢
      have h0 : ¬ ck_hcx T n S.1 = 0 := fun e => by have h := hc.2; rw [e] at h; revert h; decide
      have hw : ∃ w : Int32, (if ck_hcx T n S.1 = 43 then (4 : Int32) else 5) = w ∧ ¬ w ≤ 3 ∧ ¬ 9 ≤ w := by
        split
        · exact ⟨4, rfl, by decide, by decide⟩
        · exact ⟨5, rfl, by decide, by decide⟩
      obtain ⟨w, hw0, hw1, hw2⟩ := hw
      rw [hw0] at hf ⊢
      have g := (ck_one_g (w := w) hg hs hc.1 h0).1
      have g2 := ck_lpw_g (T := T) hg f _ g.1
      exact ih _ g.1 (lv_g1 g hl) hf h (cH_one hg hU hw1 hw2 hs hl hc.1 h0 (g2.2.1 hf).1 ho hh hb2) hh
    · rw [if_neg hc] at hf ⊢
      rw [ex_bad hf]; exact ho
theorem cH_te {T : Nat → Int32} {n b N : Nat} {U : ck_R → ck_R} (hg : ck_gd n U) (hU : cH n b N U) (h1 : 1 ≤ b) (hb2 : b ≤ 60) : cH n (b - 1) N (ck_te T n U) := by
  intro S hs hl hf h ho hh
  unfold ck_te at hf ⊢
  have g := hg _ _ hs
  have g2 := ck_lpt_g (T := T) hg (n - (U S).1) _ g.1
  exact cH_lpt hg hU hb2 _ _ g.1 (lv_g1 g hl) hf h (hU _ hs hl (g2.2.1 hf).1 h ho (by omega)) (by omega)
theorem cH_wh {T : Nat → Int32} {n : Nat} (hn : n < 2 ^ 31) : ∀ N, N ≤ 9 → cH n (45 - 5 * N) N (ck_wh T n N) := by
  intro N
  induction N with
  | zero =>
    intro _ S hs hl hf h ho hh
    obtain ⟨q, h1, h2, h3⟩ := hl hf
    omega
  | succ N ih =>
    intro hN S hs hl hf h ho hh
    have hg := ck_wh_gd (T := T) hn N
    have hu := cH_un (T := T) hn hg (ih (by omega)) (by omega) (by omega)
    have hgu := ck_un_gd (T := T) hn hg
    have ht := cH_te (T := T) hgu hu (by omega) (by omega)
    have hgt := ck_te_gd (T := T) hgu
    rw [ck_wh] at hf ⊢
    have g := hgt _ _ hs
    have g2 := ck_lpw_g (T := T) hgt (n - (ck_te T n (ck_un T n (ck_wh T n N)) S).1) _ g.1
    exact cH_lpw hgt ht (by omega) _ _ g.1 (lv_g1 g hl) hf h (ht _ hs hl (g2.2.1 hf).1 h ho (by omega)) (by omega)
theorem cN_num {T : Nat → Int32} {n : Nat} {lo hi : Int32} {q m : Nat} (el : lo.toInt = q) (eh : hi.toInt = m) (hm : m < 2 ^ 30) {a : Nat} {b k : Int32} (ha : a ≤ n) (hn : n < 2 ^ 31) (h : (ck_num T n lo hi a b k).2.2.1 = -1) : b = -1 ∧ ∃ v : Nat, q ≤ v ∧ v ≤ m ∧ (ck_num T n lo hi a b k).1 = nI v := by
  have hk := ck_sk_le T ha
  have hj := ck_jm (Nat.lt_of_le_of_lt hk.2 hn)
  by_cases hb : b = -1
  · refine ⟨hb, ?_⟩
    unfold ck_num at h ⊢
    rw [if_pos hb] at h ⊢
    by_cases hd : 48 ≤ ck_hcx T n a ∧ ck_hcx T n a ≤ 57
    · rw [if_pos hd] at h ⊢
      generalize (ck_dgf T (n - ck_sk T n a) (ck_sk T n a) 0).1 = v at h ⊢
      by_cases hv : lo ≤ v ∧ v ≤ hi
      · rw [if_pos hv]
        have h1 := Int32.le_iff_toInt_le.mp hv.1
        have hp : ¬ v < 0 := by
          rw [Int32.lt_iff_toInt_lt, show (0 : Int32).toInt = 0 from rfl]
          omega
        obtain ⟨j, h2, h3⟩ := nI_of2 (M := hi) (n := m) eh hp hv.2
        refine ⟨j, ?_, h2, h3⟩
        rw [h3, nI_toInt (by omega)] at h1
        omega
      · rw [if_neg hv] at h
        exact absurd h hj
    · rw [if_neg hd] at h
      exact absurd h hj
  · exfalso
    unfold ck_num at h
    rw [if_neg hb] at h
    exact hb h
theorem cN_i {v m : Nat} (h : v ≤ m) (hm : m < 2 ^ 30) : 0 ≤ (nI v).toInt ∧ (nI v).toInt ≤ m := by
  rw [nI_toInt (by omega)]
  omega
theorem cN_sgn {T : Nat → Int32} {n a : Nat} {k : Int32} (ha : a ≤ n) (hn : n < 2 ^ 31) (h : (ck_sgn T n a (-1) k).2.2.1 = -1) : -500 ≤ (ck_sgn T n a (-1) k).1.toInt ∧ (ck_sgn T n a (-1) k).1.toInt ≤ 500 := by
  have hk := ck_sk_le T ha
  unfold ck_sgn at h ⊢
  rw [if_pos rfl] at h ⊢
  by_cases c : ck_hcx T n a = 45
  · rw [if_pos c] at h ⊢
    have hlt : ck_sk T n a < n := by
      unfold ck_hcx at c
      by_cases h : ck_sk T n a < n
      · exact h
      · rw [if_neg h] at c; exact absurd c (by decide)
    obtain ⟨-, v, h1, h2, h3⟩ := cN_num (T := T) (n := n) (lo := 0) (hi := 500) (q := 0) (m := 500) rfl rfl (by decide) (a := ck_sk T n a + 1) (b := -1) (k := k) (by omega) hn h
    try dsimp only
    rw [h3]
    have h4 := cN_i h2 (by decide)
    have e : (-(nI v)).toInt = -(nI v).toInt := fb_negI (by omega)
    rw [e]
    omega
  · rw [if_neg c] at h ⊢
    obtain ⟨-, v, h1, h2, h3⟩ := cN_num (T := T) (n := n) (lo := 0) (hi := 500) (q := 0) (m := 500) rfl rfl (by decide) (a := ck_sk T n a) (b := -1) (k := k) hk.2 hn h
    rw [h3]
    have h4 := cN_i h2 (by decide)
    omega
/-- what is told keeps to its ranges -/
def cVt (t : Nat → Int32) : Prop := (∃ r : Nat, 1 ≤ r ∧ r ≤ 31 ∧ t 0 = nI r) ∧ (-500 ≤ (t 1).toInt ∧ (t 1).toInt ≤ 500) ∧ (-500 ≤ (t 2).toInt ∧ (t 2).toInt ≤ 500) ∧ (0 ≤ (t 3).toInt ∧ (t 3).toInt ≤ 500) ∧ (0 ≤ (t 4).toInt ∧ (t 4).toInt ≤ 500) ∧ (0 ≤ (t 15).toInt ∧ (t 15).toInt ≤ 50) ∧ (∃ s : Nat, s ≤ 2000 ∧ t 5 = nI s) ∧ (∀ j, j < 4 → ∃ q : Nat, q ≤ 16 ∧ t (6 + j) = nI q) ∧ (t 12 = 0 ∨ t 12 = 1)
theorem cVt_0 {t : Nat → Int32} {x : Int32} (h : cVt t) (hx : ∃ r : Nat, 1 ≤ r ∧ r ≤ 31 ∧ x = nI r) : cVt (upd t 0 x) := by
  obtain ⟨h0, h1, h2, h3, h4, h5, h6, h7, h8⟩ := h
  exact ⟨by rw [pk_us]; exact hx, by rw [pk_un (by decide)]; exact h1, by rw [pk_un (by decide)]; exact h2, by rw [pk_un (by decide)]; exact h3, by rw [pk_un (by decide)]; exact h4, by rw [pk_un (by decide)]; exact h5, by rw [pk_un (by decide)]; exact h6, fun j hj => by rw [pk_un (by omega)]; exact h7 j hj, by rw [pk_un (by decide)]; exact h8⟩
theorem cVt_1 {t : Nat → Int32} {x : Int32} (h : cVt t) (hx : -500 ≤ x.toInt ∧ x.toInt ≤ 500) : cVt (upd t 1 x) := by
  obtain ⟨h0, h1, h2, h3, h4, h5, h6, h7, h8⟩ := h
  exact ⟨by rw [pk_un (by decide)]; exact h0, by rw [pk_us]; exact hx, by rw [pk_un (by decide)]; exact h2, by rw [pk_un (by decide)]; exact h3, by rw [pk_un (by decide)]; exact h4, by rw [pk_un (by decide)]; exact h5, by rw [pk_un (by decide)]; exact h6, fun j hj => by rw [pk_un (by omega)]; exact h7 j hj, by rw [pk_un (by decide)]; exact h8⟩
theorem cVt_2 {t : Nat → Int32} {x : Int32} (h : cVt t) (hx : -500 ≤ x.toInt ∧ x.toInt ≤ 500) : cVt (upd t 2 x) := by
  obtain ⟨h0, h1, h2, h3, h4, h5, h6, h7, h8⟩ := h
  exact ⟨by rw [pk_un (by decide)]; exact h0, by rw [pk_un (by decide)]; exact h1, by rw [pk_us]; exact hx, by rw [pk_un (by decide)]; exact h3, by rw [pk_un (by decide)]; exact h4, by rw [pk_un (by decide)]; exact h5, by rw [pk_un (by decide)]; exact h6, fun j hj => by rw [pk_un (by omega)]; exact h7 j hj, by rw [pk_un (by decide)]; exact h8⟩
theorem cVt_3 {t : Nat → Int32} {x : Int32} (h : cVt t) (hx : 0 ≤ x.toInt ∧ x.toInt ≤ 500) : cVt (upd t 3 x) := by
  obtain ⟨h0, h1, h2, h3, h4, h5, h6, h7, h8⟩ := h
  exact ⟨by rw [pk_un (by decide)]; exact h0, by rw [pk_un (by decide)]; exact h1, by rw [pk_un (by decide)]; exact h2, by rw [pk_us]; exact hx, by rw [pk_un (by decide)]; exact h4, by rw [pk_un (by decide)]; exact h5, by rw [pk_un (by decide)]; exact h6, fun j hj => by rw [pk_un (by omega)]; exact h7 j hj, by rw [pk_un (by decide)]; exact h8⟩
theorem cVt_4 {t : Nat → Int32} {x : Int32} (h : cVt t) (hx : 0 ≤ x.toInt ∧ x.toInt ≤ 500) : cVt (upd t 4 x) := by
  obtain ⟨h0, h1, h2, h3, h4, h5, h6, h7, h8⟩ := h
  exact ⟨by rw [pk_un (by decide)]; exact h0, by rw [pk_un (by decide)]; exact h1, by rw [pk_un (by decide)]; exact h2, by rw [pk_un (by decide)]; exact h3, by rw [pk_us]; exact hx, by rw [pk_un (by decide)]; exact h5, by rw [pk_un (by decide)]; exact h6, fun j hj => by rw [pk_un (by omega)]; exact h7 j hj, by rw [pk_un (by decide)]; exact h8⟩
theorem cVt_15 {t : Nat → Int32} {x : Int32} (h : cVt t) (hx : 0 ≤ x.toInt ∧ x.toInt ≤ 50) : cVt (upd t 15 x) := by
  obtain ⟨h0, h1, h2, h3, h4, h5, h6, h7, h8⟩ := h
  exact ⟨by rw [pk_un (by decide)]; exact h0, by rw [pk_un (by decide)]; exact h1, by rw [pk_un (by decide)]; exact h2, by rw [pk_un (by decide)]; exact h3, by rw [pk_un (by decide)]; exact h4, by rw [pk_us]; exact hx, by rw [pk_un (by decide)]; exact h6, fun j hj => by rw [pk_un (by omega)]; exact h7 j hj, by rw [pk_un (by decide)]; exact h8⟩
theorem cVt_5 {t : Nat → Int32} {x : Int32} (h : cVt t) (hx : ∃ s : Nat, s ≤ 2000 ∧ x = nI s) : cVt (upd t 5 x) := by
  obtain ⟨h0, h1, h2, h3, h4, h5, h6, h7, h8⟩ := h
  exact ⟨by rw [pk_un (by decide)]; exact h0, by rw [pk_un (by decide)]; exact h1, by rw [pk_un (by decide)]; exact h2, by rw [pk_un (by decide)]; exact h3, by rw [pk_un (by decide)]; exact h4, by rw [pk_un (by decide)]; exact h5, by rw [pk_us]; exact hx, fun j hj => by rw [pk_un (by omega)]; exact h7 j hj, by rw [pk_un (by decide)]; exact h8⟩
theorem cVt_12 {t : Nat → Int32} {x : Int32} (h : cVt t) (hx : x = 0 ∨ x = 1) : cVt (upd t 12 x) := by
  obtain ⟨h0, h1, h2, h3, h4, h5, h6, h7, h8⟩ := h
  exact ⟨by rw [pk_un (by decide)]; exact h0, by rw [pk_un (by decide)]; exact h1, by rw [pk_un (by decide)]; exact h2, by rw [pk_un (by decide)]; exact h3, by rw [pk_un (by decide)]; exact h4, by rw [pk_un (by decide)]; exact h5, by rw [pk_un (by decide)]; exact h6, fun j hj => by rw [pk_un (by omega)]; exact h7 j hj, by rw [pk_us]; exact hx⟩
theorem cVt_14 {t : Nat → Int32} {x : Int32} (h : cVt t)  : cVt (upd t 14 x) := by
  obtain ⟨h0, h1, h2, h3, h4, h5, h6, h7, h8⟩ := h
  exact ⟨by rw [pk_un (by decide)]; exact h0, by rw [pk_un (by decide)]; exact h1, by rw [pk_un (by decide)]; exact h2, by rw [pk_un (by decide)]; exact h3, by rw [pk_un (by decide)]; exact h4, by rw [pk_un (by decide)]; exact h5, by rw [pk_un (by decide)]; exact h6, fun j hj => by rw [pk_un (by omega)]; exact h7 j hj, by rw [pk_un (by decide)]; exact h8⟩
theorem cVt_13 {t : Nat → Int32} {x : Int32} (h : cVt t)  : cVt (upd t 13 x) := by
  obtain ⟨h0, h1, h2, h3, h4, h5, h6, h7, h8⟩ := h
  exact ⟨by rw [pk_un (by decide)]; exact h0, by rw [pk_un (by decide)]; exact h1, by rw [pk_un (by decide)]; exact h2, by rw [pk_un (by decide)]; exact h3, by rw [pk_un (by decide)]; exact h4, by rw [pk_un (by decide)]; exact h5, by rw [pk_un (by decide)]; exact h6, fun j hj => by rw [pk_un (by omega)]; exact h7 j hj, by rw [pk_un (by decide)]; exact h8⟩
theorem cVt_10 {t : Nat → Int32} {x : Int32} (h : cVt t)  : cVt (upd t 10 x) := by
  obtain ⟨h0, h1, h2, h3, h4, h5, h6, h7, h8⟩ := h
  exact ⟨by rw [pk_un (by decide)]; exact h0, by rw [pk_un (by decide)]; exact h1, by rw [pk_un (by decide)]; exact h2, by rw [pk_un (by decide)]; exact h3, by rw [pk_un (by decide)]; exact h4, by rw [pk_un (by decide)]; exact h5, by rw [pk_un (by decide)]; exact h6, fun j hj => by rw [pk_un (by omega)]; exact h7 j hj, by rw [pk_un (by decide)]; exact h8⟩
theorem cVt_11 {t : Nat → Int32} {x : Int32} (h : cVt t)  : cVt (upd t 11 x) := by
  obtain ⟨h0, h1, h2, h3, h4, h5, h6, h7, h8⟩ := h
  exact ⟨by rw [pk_un (by decide)]; exact h0, by rw [pk_un (by decide)]; exact h1, by rw [pk_un (by decide)]; exact h2, by rw [pk_un (by decide)]; exact h3, by rw [pk_un (by decide)]; exact h4, by rw [pk_un (by decide)]; exact h5, by rw [pk_un (by decide)]; exact h6, fun j hj => by rw [pk_un (by omega)]; exact h7 j hj, by rw [pk_un (by decide)]; exact h8⟩
theorem cVt_q {t : Nat → Int32} {x : Int32} {i : Nat} (hi : i < 4) (h : cVt t) (hx : ∃ q : Nat, q ≤ 16 ∧ x = nI q) : cVt (upd t (6 + i) x) := by
  obtain ⟨h0, h1, h2, h3, h4, h5, h6, h7, h8⟩ := h
  exact ⟨by rw [pk_un (by omega)]; exact h0, by rw [pk_un (by omega)]; exact h1, by rw [pk_un (by omega)]; exact h2, by rw [pk_un (by omega)]; exact h3, by rw [pk_un (by omega)]; exact h4, by rw [pk_un (by omega)]; exact h5, by rw [pk_un (by omega)]; exact h6, fun j hj => by
    by_cases e : j = i
    · rw [e, pk_us]; exact hx
    · rw [pk_un (by omega)]; exact h7 j hj, by rw [pk_un (by omega)]; exact h8⟩
theorem cVt_t0 (t : Nat → Int32) : cVt (ck_t0 t) := by
  refine ⟨⟨8, by omega, by omega, rfl⟩, ⟨by show -500 ≤ (0 : Int32).toInt; decide, by show (0 : Int32).toInt ≤ 500; decide⟩, ⟨by show -500 ≤ (0 : Int32).toInt; decide, by show (0 : Int32).toInt ≤ 500; decide⟩, ⟨by show 0 ≤ (0 : Int32).toInt; decide, by show (0 : Int32).toInt ≤ 500; decide⟩, ⟨by show 0 ≤ (0 : Int32).toInt; decide, by show (0 : Int32).toInt ≤ 500; decide⟩, ⟨by show 0 ≤ (4 : Int32).toInt; decide, by show (4 : Int32).toInt ≤ 50; decide⟩, ⟨400, by omega, rfl⟩, fun j hj => ⟨0, by omega, ?_⟩, Or.inl rfl⟩
  rcases (show j = 0 ∨ j = 1 ∨ j = 2 ∨ j = 3 by omega) with rfl | rfl | rfl | rfl <;> rfl
theorem cVt_qtr {T : Nat → Int32} {n a : Nat} {k : Int32} {t : Nat → Int32} (ha : a ≤ n) (hn : n < 2 ^ 31) (h : cVt t) : ∀ i, i ≤ 4 → (ck_qtr T n a k t i).2.1 = -1 → cVt (ck_qtr T n a k t i).2.2.2 := by
  intro i
  induction i with
  | zero => intro _ _; exact h
  | succ i ih =>
    intro hi hf
    rw [ck_qtr_s] at hf ⊢
    obtain ⟨h1, v, -, h2, h3⟩ := cN_num (T := T) (n := n) (lo := 0) (hi := 16) (q := 0) (m := 16) rfl rfl (by decide) (ck_qtr_a ha i) hn hf
    try dsimp only
    exact cVt_q (by omega) (ih (by omega) h1) ⟨v, h2, h3⟩
theorem cVt_sil {T : Nat → Int32} {n a : Nat} {k : Int32} {t : Nat → Int32} (h : cVt t) : cVt (ck_sil T n a k t).2.2.2 := by
  have h1 : ∀ x y, cVt (upd (upd t 10 x) 11 y) := fun x y => cVt_11 (cVt_10 h)
  unfold ck_sil
  try dsimp only
  split
  · unfold ck_silE
    split
    · exact cVt_12 (h1 _ _) (Or.inr rfl)
    · split
      · exact cVt_12 (h1 _ _) (Or.inl rfl)
      · exact cVt_12 (h1 _ _) (Or.inl rfl)
  · exact h1 _ _
theorem cVt_cal {T : Nat → Int32} {n a : Nat} {k : Int32} {t : Nat → Int32} (h : cVt t) : cVt (ck_calR T n a k t).2.2.2 := by
  unfold ck_calR
  repeat' split
  all_goals exact cVt_13 h
/-- teeth and racks -/
def cVe (Q : ck_Qt) : Prop := (Q.2.2.2.1 = 0 ∧ okh Q.1 1) ∨ (Q.2.2.2.1 = 1 ∧ 1 ≤ Q.2.2.1 ∧ Q.2.2.1 ≤ 24 ∧ ∀ j, j < Q.2.2.1 → ∃ t : Nat, t ≤ 12 ∧ Q.2.2.2.2.2 j = nI t)
theorem cVe_th {T : Nat → Int32} {n : Nat} (hn : n < 2 ^ 31) : ∀ f a k w e, a ≤ n → w ≤ 24 → (f = 0 → 1 ≤ w) → (∀ j, j < w → ∃ t : Nat, t ≤ 12 ∧ e j = nI t) → (ck_th T n f a k w e).2.1 = -1 → 1 ≤ (ck_th T n f a k w e).2.2.2.1 ∧ ∀ j, j < (ck_th T n f a k w e).2.2.2.1 → ∃ t : Nat, t ≤ 12 ∧ (ck_th T n f a k w e).2.2.2.2 j = nI t := by
  intro f
  induction f with
  | zero => intro a k w e _ _ h1 h2 _; exact ⟨h1 rfl, h2⟩
  | succ f ih =>
    intro a k w e ha hw h1 h2 hf
    have hk := ck_sk_le T ha
    rw [ck_th] at hf ⊢
    try dsimp only at hf ⊢
    by_cases hr : (ck_num T n 0 12 (ck_sk T n a) (-1) k).2.2.1 = -1
    · obtain ⟨-, v, -, v1, v2⟩ := cN_num (T := T) (n := n) (lo := 0) (hi := 12) (q := 0) (m := 12) rfl rfl (by decide) hk.2 hn hr
      have hna := ck_num_a (T := T) (n := n) (lo := 0) (hi := 12) (a := ck_sk T n a) (b := -1) (k := k) hk.2
      rw [if_pos hr] at hf ⊢
      generalize ck_num T n 0 12 (ck_sk T n a) (-1) k = r at hf hr v2 hna ⊢
      have h3 : ∀ j, j < w + 1 → ∃ t : Nat, t ≤ 12 ∧ upd e w r.1 j = nI t := by
        intro j hj
        by_cases c : j = w
        · rw [c, pk_us]; exact ⟨v, v1, v2⟩
        · rw [pk_un c]; exact h2 j (by omega)
      by_cases h24 : w = 24
      · rw [if_pos h24] at hf
        exact absurd hf (ck_jm (Nat.lt_of_le_of_lt hk.2 hn))
      · rw [if_neg h24] at hf ⊢
        by_cases hc : ck_hcx T n r.2.1 = 44
        · rw [if_pos hc] at hf ⊢
          have hlt : ck_sk T n r.2.1 < n := by
            unfold ck_hcx at hc
            by_cases h : ck_sk T n r.2.1 < n
            · exact h
            · rw [if_neg h] at hc; exact absurd hc (by decide)
          exact ih _ _ _ _ (by omega) (by omega) (fun _ => by omega) h3 hf
        · rw [if_neg hc]
          exact ⟨by show 1 ≤ w + 1; omega, h3⟩
    · rw [if_neg hr] at hf
      exact absurd hf hr
theorem cVe_str {T : Nat → Int32} {n : Nat} (hn : n ≤ 400) {Q : ck_Qt} (h : Q.1.1 ≤ n) (hf : (ck_str T n Q).1.2.1 = -1) : cVe (ck_str T n Q) ∧ (ck_str T n Q).2.2.2.2.1 = Q.2.2.2.2.1 := by
  have hs := ck_sk_le T h
  have hp := ck_ps_le T hs.2
  unfold ck_str at hf ⊢
  try dsimp only at hf ⊢
  by_cases h1 : ck_wo_ T n (ck_sk T n Q.1.1) = 590955
  · rw [if_pos h1] at hf ⊢
    refine ⟨Or.inl ⟨rfl, ?_⟩, rfl⟩
    exact cH_wh (T := T) (n := n) (by omega) 9 (Nat.le_refl _) (ck_ps T n (ck_sk T n Q.1.1), -1, Q.1.2.2.1, 0, 0, Q.1.2.2.2.2.2) ⟨hp.2, fun _ => Nat.zero_le _⟩ (fun _ => ⟨0, rfl, by omega, by omega⟩) hf 0 ⟨fun k hk => absurd hk (Nat.not_lt_zero _), rfl⟩ (Nat.zero_le _)
  · rw [if_neg h1] at hf ⊢
    by_cases h2 : ck_wo_ T n (ck_sk T n Q.1.1) = 24384684
    · rw [if_pos h2] at hf ⊢
      have hth := cVe_th (T := T) (n := n) (by omega) 25 (ck_ps T n (ck_sk T n Q.1.1)) Q.1.2.2.1 0 Q.2.2.2.2.2 hp.2 (by decide) (fun e => absurd e (by decide)) (fun j hj => absurd hj (Nat.not_lt_zero _)) hf
      exact ⟨Or.inr ⟨rfl, hth.1, ck_th_w _ _ _ _ _ (by decide), hth.2⟩, rfl⟩
    · rw [if_neg h2] at hf
      exact absurd hf (ck_jm (by omega))
theorem cVe_cg {Q Q2 : ck_Qt} (h : cVe Q) (e1 : Q2.1.2.2.2.2 = Q.1.2.2.2.2) (e2 : Q2.2.2.1 = Q.2.2.1) (e3 : Q2.2.2.2.1 = Q.2.2.2.1) (e4 : Q2.2.2.2.2.2 = Q.2.2.2.2.2) : cVe Q2 := by
  unfold cVe
  rw [e2, e3, e4]
  rcases h with ⟨a, b⟩ | h
  · exact Or.inl ⟨a, okh_cg b e1⟩
  · exact Or.inr h
theorem cVe_dsp {T : Nat → Int32} {n : Nat} (hn : n ≤ 400) {v : Int64} {S : ck_R} {p w : Nat} {h : Int32} {t e : Nat → Int32} (ha : S.1 ≤ n) (hv : cVe (S, p, w, h, t, e)) (ht : cVt t) (hf : (ck_dsp T n v S p w h t e).1.2.1 = -1) : cVe (ck_dsp T n v S p w h t e) ∧ cVt (ck_dsp T n v S p w h t e).2.2.2.2.1 := by
  have hn31 : n < 2 ^ 31 := by omega
  unfold ck_dsp at hf ⊢
  by_cases h0 : v = 19118
  · rw [if_pos h0] at hf ⊢
    obtain ⟨-, x, x1, x2, x3⟩ := cN_num (T := T) (n := n) (lo := 1) (hi := 31) (q := 1) (m := 31) rfl rfl (by decide) ha hn31 hf
    exact ⟨cVe_cg hv rfl rfl rfl rfl, cVt_0 ht ⟨x, x1, x2, x3⟩⟩
  rw [if_neg h0] at hf ⊢
  by_cases h1 : v = 67173
  · rw [if_pos h1] at hf ⊢
    exact ⟨cVe_cg hv rfl rfl rfl rfl, cVt_1 ht (cN_sgn ha hn31 hf)⟩
  rw [if_neg h1] at hf ⊢
  by_cases h2 : v = 755277
  · rw [if_pos h2] at hf ⊢
    exact ⟨cVe_cg hv rfl rfl rfl rfl, cVt_2 ht (cN_sgn ha hn31 hf)⟩
  rw [if_neg h2] at hf ⊢
  by_cases h3 : v = 758834
  · rw [if_pos h3] at hf ⊢
    obtain ⟨-, x, x1, x2, x3⟩ := cN_num (T := T) (n := n) (lo := 0) (hi := 500) (q := 0) (m := 500) rfl rfl (by decide) ha hn31 hf
    exact ⟨cVe_cg hv rfl rfl rfl rfl, cVt_3 ht (by rw [x3]; exact cN_i x2 (by decide))⟩
  rw [if_neg h3] at hf ⊢
  by_cases h4 : v = 546188
  · rw [if_pos h4] at hf ⊢
    obtain ⟨-, x, x1, x2, x3⟩ := cN_num (T := T) (n := n) (lo := 0) (hi := 500) (q := 0) (m := 500) rfl rfl (by decide) ha hn31 hf
    exact ⟨cVe_cg hv rfl rfl rfl rfl, cVt_4 ht (by rw [x3]; exact cN_i x2 (by decide))⟩
  rw [if_neg h4] at hf ⊢
  by_cases h5 : v = 16955865
  · rw [if_pos h5] at hf ⊢
    obtain ⟨-, x, x1, x2, x3⟩ := cN_num (T := T) (n := n) (lo := 0) (hi := 50) (q := 0) (m := 50) rfl rfl (by decide) ha hn31 hf
    exact ⟨cVe_cg hv rfl rfl rfl rfl, cVt_15 ht (by rw [x3]; exact cN_i x2 (by decide))⟩
  rw [if_neg h5] at hf ⊢
  by_cases h6 : v = 659105125
  · rw [if_pos h6] at hf ⊢
    obtain ⟨z1, z2⟩ := cVe_str (T := T) hn (Q := (S, p, w, h, t, e)) ha hf
    exact ⟨z1, by rw [z2]; exact ht⟩
  rw [if_neg h6] at hf ⊢
  by_cases h7 : v = 21091560627
  · rw [if_pos h7] at hf ⊢
    obtain ⟨-, x, x1, x2, x3⟩ := cN_num (T := T) (n := n) (lo := 1) (hi := 2000) (q := 1) (m := 2000) rfl rfl (by decide) ha hn31 hf
    exact ⟨cVe_cg hv rfl rfl rfl rfl, cVt_5 ht ⟨x, x2, x3⟩⟩
  rw [if_neg h7] at hf ⊢
  by_cases h8 : v = 606717220435
  · rw [if_pos h8] at hf ⊢
    have hq := cVt_qtr (T := T) (n := n) (k := S.2.2.1) ha hn31 ht 4 (Nat.le_refl _)
    generalize ck_qtr T n S.1 S.2.2.1 t 4 = z9 at hf hq ⊢
    exact ⟨cVe_cg hv rfl rfl rfl rfl, hq hf⟩
  rw [if_neg h8] at hf ⊢
  by_cases h9 : v = 647370196
  · rw [if_pos h9] at hf ⊢
    have hq := cVt_sil (T := T) (n := n) (a := S.1) (k := S.2.2.1) ht
    generalize ck_sil T n S.1 S.2.2.1 t = z9 at hf hq ⊢
    exact ⟨cVe_cg hv rfl rfl rfl rfl, hq⟩
  rw [if_neg h9] at hf ⊢
  by_cases h10 : v = 104561315890
  · rw [if_pos h10] at hf ⊢
    have hq := cVt_cal (T := T) (n := n) (a := S.1) (k := S.2.2.1) ht
    generalize ck_calR T n S.1 S.2.2.1 t = z9 at hf hq ⊢
    exact ⟨cVe_cg hv rfl rfl rfl rfl, hq⟩
  rw [if_neg h10] at hf ⊢
  exact ⟨cVe_cg hv rfl rfl rfl rfl, cVt_14 ht⟩
theorem cVe_par {T : Nat → Int32} {n : Nat} (hn : n ≤ 400) {Q : ck_Qt} (ha : Q.1.1 ≤ n) (hv : cVe Q) (ht : cVt Q.2.2.2.2.1) (hf : (ck_par T n Q).1.2.1 = -1) : cVe (ck_par T n Q) ∧ cVt (ck_par T n Q).2.2.2.2.1 := by
  have hs := ck_sk_le T ha
  have hp := ck_ps_le T hs.2
  unfold ck_par at hf ⊢
  by_cases h0 : ck_isP (ck_wo_ T n (ck_sk T n Q.1.1)) = 0
  · rw [if_pos h0] at hf
    exact absurd hf (ck_jm (by omega))
  · rw [if_neg h0] at hf ⊢
    by_cases h16 : Q.2.1 = 16
    · rw [if_pos h16] at hf
      exact absurd hf (ck_jm (by omega))
    · rw [if_neg h16] at hf ⊢
      try dsimp only at hf ⊢
      have hd := cVe_dsp (T := T) hn (v := ck_wo_ T n (ck_sk T n Q.1.1)) (S := (ck_ps T n (ck_sk T n Q.1.1), -1, Q.1.2.2)) (p := Q.2.1 + 1) (w := Q.2.2.1) (h := Q.2.2.2.1) (t := Q.2.2.2.2.1) (e := Q.2.2.2.2.2) hp.2 (cVe_cg hv rfl rfl rfl rfl) ht (ck_ne_f hf)
      exact ⟨cVe_cg hd.1 rfl rfl rfl rfl, hd.2⟩
theorem cVe_rds {T : Nat → Int32} {n : Nat} (hn : n ≤ 400) : ∀ f Q, Q.1.1 ≤ n → Q.2.1 ≤ 16 → cVe Q → cVt Q.2.2.2.2.1 → (ck_rds T n f Q).1.2.1 = -1 → cVe (ck_rds T n f Q) ∧ cVt (ck_rds T n f Q).2.2.2.2.1 := by
  intro f
  induction f with
  | zero => intro Q _ _ h1 h2 _; exact ⟨h1, h2⟩
  | succ f ih =>
    intro Q ha hq h1 h2 e
    have hs := ck_sk_le T ha
    rw [ck_rds] at e ⊢
    by_cases hb0 : Q.1.2.1 = -1
    · rw [if_pos hb0] at e ⊢
      by_cases hlt : ck_sk T n Q.1.1 < n
      · rw [if_pos hlt] at e ⊢
        have hg := ck_par_g (T := T) (n := n) (by omega) (Q := ((ck_sk T n Q.1.1, Q.1.2), Q.2)) hs.2 hq
        by_cases hb : (ck_par T n ((ck_sk T n Q.1.1, Q.1.2), Q.2)).1.2.1 = -1
        · obtain ⟨z1, z2⟩ := cVe_par (T := T) hn (Q := ((ck_sk T n Q.1.1, Q.1.2), Q.2)) hs.2 (cVe_cg h1 rfl rfl rfl rfl) h2 hb
          exact ih _ hg.1 hg.2.2 z1 z2 e
        · cases f with
          | zero => exact absurd e hb
          | succ f => rw [ck_rds, if_neg hb] at e; exact absurd e hb
      · rw [if_neg hlt]
        exact ⟨cVe_cg h1 rfl rfl rfl rfl, h2⟩
    · rw [if_neg hb0] at e
      exact absurd e hb0
theorem okh_0 (C : Nat → Int32) (a : Nat) (b k o : Int32) (N : Nat → Int32) : okh (a, b, k, o, 7, ck_rC C, N) 1 := by
  have e0 : ck_rC C 0 = 1 := rfl
  have e1 : ck_rC C 1 = 0 := rfl
  have e2 : ck_rC C 2 = 4 := rfl
  have e3 : ck_rC C 3 = 0 := rfl
  have e4 : ck_rC C 4 = 8 := rfl
  have e5 : ck_rC C 5 = 0 := rfl
  have e6 : ck_rC C 6 = 4 := rfl
  have t0 : ck_ht (ck_rC C) 0 = 0 := rfl
  have t1 : ck_ht (ck_rC C) 1 = 1 := by rw [ck_ht, e0, t0]; decide
  have t2 : ck_ht (ck_rC C) 2 = 2 := by rw [ck_ht, e1, t1]; decide
  have t3 : ck_ht (ck_rC C) 3 = 1 := by rw [ck_ht, e2, t2]; decide
  have t4 : ck_ht (ck_rC C) 4 = 2 := by rw [ck_ht, e3, t3]; decide
  have t5 : ck_ht (ck_rC C) 5 = 1 := by rw [ck_ht, e4, t4]; decide
  have t6 : ck_ht (ck_rC C) 6 = 2 := by rw [ck_ht, e5, t5]; decide
  have t7 : ck_ht (ck_rC C) 7 = 1 := by rw [ck_ht, e6, t6]; decide
  refine ⟨fun q hq => ?_, t7⟩
  have hq : q < 7 := hq
  show ck_rko (ck_rC C q) (ck_ht (ck_rC C) q)
  rcases (show q = 0 ∨ q = 1 ∨ q = 2 ∨ q = 3 ∨ q = 4 ∨ q = 5 ∨ q = 6 by omega) with rfl | rfl | rfl | rfl | rfl | rfl | rfl
  · rw [e0, t0]; unfold ck_rko; decide
  · rw [e1, t1]; unfold ck_rko; decide
  · rw [e2, t2]; unfold ck_rko; decide
  · rw [e3, t3]; unfold ck_rko; decide
  · rw [e4, t4]; unfold ck_rko; decide
  · rw [e5, t5]; unfold ck_rko; decide
  · rw [e6, t6]; unfold ck_rko; decide
/-- a text read without a fault -/
theorem ck_rds_V {T : Nat → Int32} {n : Nat} (hn : n ≤ 400) {t C N e : Nat → Int32} {k0 o0 : Int32} (hb : (ck_rds T n (n + 1) ((0, -1, k0, o0, 7, ck_rC C, ck_rN N), 0, 0, 0, ck_t0 t, e)).1.2.1 = -1) :
    cVe (ck_rds T n (n + 1) ((0, -1, k0, o0, 7, ck_rC C, ck_rN N), 0, 0, 0, ck_t0 t, e)) ∧ cVt (ck_rds T n (n + 1) ((0, -1, k0, o0, 7, ck_rC C, ck_rN N), 0, 0, 0, ck_t0 t, e)).2.2.2.2.1 :=
  cVe_rds hn _ _ (Nat.zero_le _) (by show 0 ≤ 16; decide) (Or.inl ⟨rfl, okh_0 C 0 (-1) k0 o0 (ck_rN N)⟩) (cVt_t0 t) hb

theorem ck_skf_s (T : Nat → Int32) : ∀ f a, ck_skf T f a < a + f → ¬ T (ck_skf T f a) = 32
  | 0, a, h => absurd h (Nat.lt_irrefl _)
  | f + 1, a, h => by
    unfold ck_skf at h ⊢
    by_cases q : T a = 32
    · rw [if_pos q] at h ⊢
      exact ck_skf_s T f (a + 1) (by omega)
    · rw [if_neg q]; exact q
theorem ck_skk (T : Nat → Int32) (n a : Nat) : ck_sk T n (ck_sk T n a) = ck_sk T n a := by
  have h1 := ck_skf_le T (n - a) a
  have h2 := ck_skf_s T (n - a) a
  have e : ck_sk T n a = ck_skf T (n - a) a := rfl
  rw [← e] at h1 h2
  generalize ck_sk T n a = s at h1 h2
  unfold ck_sk
  rcases Nat.eq_zero_or_pos (n - s) with h | h
  · rw [h]; rfl
  · obtain ⟨m, hm⟩ : ∃ m, n - s = m + 1 := ⟨n - s - 1, by omega⟩
    rw [hm, ck_skf, if_neg (h2 (by omega))]
theorem ck_hck (T : Nat → Int32) (n a : Nat) : ck_hcx T n (ck_sk T n a) = ck_hcx T n a := by
  unfold ck_hcx; rw [ck_skk]
abbrev ck_R : Type := Nat × Int32 × Int32 × Int32 × Nat × (Nat → Int32) × (Nat → Int32)
def ck_opR (T : Nat → Int32) (n : Nat) (S : ck_R) : ck_R := ((ck_op T n S.1 S.2.1 S.2.2.1 S.2.2.2.1).1, (ck_op T n S.1 S.2.1 S.2.2.1 S.2.2.2.1).2.1, (ck_op T n S.1 S.2.1 S.2.2.1 S.2.2.2.1).2.2.1, (ck_op T n S.1 S.2.1 S.2.2.1 S.2.2.2.1).2.2.2, S.2.2.2.2)
def ck_neR (T : Nat → Int32) (n : Nat) (ch : Int32) (S : ck_R) : ck_R := ((ck_need T n ch S.1 S.2.1 S.2.2.1).1, (ck_need T n ch S.1 S.2.1 S.2.2.1).2.1, (ck_need T n ch S.1 S.2.1 S.2.2.1).2.2, S.2.2.2)
def ck_clR (T : Nat → Int32) (n : Nat) (S : ck_R) : ck_R := ((ck_need T n 41 S.1 S.2.1 S.2.2.1).1, (ck_need T n 41 S.1 S.2.1 S.2.2.1).2.1, (ck_need T n 41 S.1 S.2.1 S.2.2.1).2.2, S.2.2.2.1 - 1, S.2.2.2.2)
def ck_wrR (kd : Int32) (S : ck_R) : ck_R := if S.2.1 = -1 then (S.1, nI S.1, kd, S.2.2.2) else S
def ck_emR (w x : Int32) (S : ck_R) : ck_R := (S.1, S.2.1, S.2.2.1, S.2.2.2.1, S.2.2.2.2.1 + 1, upd S.2.2.2.2.2.1 S.2.2.2.2.1 w, upd S.2.2.2.2.2.2 S.2.2.2.2.1 x)
def ck_cmp (T : Nat → Int32) (n : Nat) (S : ck_R) : Int32 × ck_R :=
  if S.2.1 = -1 then
    (ck_hcx T n S.1, if ck_hcx T n S.1 = 60 ∨ ck_hcx T n S.1 = 62 ∨ ck_hcx T n S.1 = 61 then (ck_sk T n S.1 + 1, S.2) else (ck_sk T n S.1, nI (ck_sk T n S.1), 1, S.2.2.2))
  else (0, S)
def ck_br (T : Nat → Int32) (n : Nat) (W : ck_R → ck_R) (S : ck_R) : ck_R :=
  let q := ck_cmp T n (W (ck_opR T n S))
  let S9 := ck_clR T n (W (ck_neR T n 44 (W (ck_neR T n 44 (W q.2)))))
  if S9.2.1 = -1 then ck_emR (if q.1 = 60 then 9 else if q.1 = 62 then 10 else 11) 0 S9 else S9
def ck_un (T : Nat → Int32) (n : Nat) (W : ck_R → ck_R) (S : ck_R) : ck_R :=
  if S.2.1 = -1 then
    (if 48 ≤ ck_hcx T n S.1 ∧ ck_hcx T n S.1 ≤ 57 then
      (if (ck_num T n 0 99 (ck_sk T n S.1) (-1) S.2.2.1).2.2.1 = -1 then ck_emR 0 (ck_num T n 0 99 (ck_sk T n S.1) (-1) S.2.2.1).1 ((ck_num T n 0 99 (ck_sk T n S.1) (-1) S.2.2.1).2.1, (ck_num T n 0 99 (ck_sk T n S.1) (-1) S.2.2.1).2.2.1, (ck_num T n 0 99 (ck_sk T n S.1) (-1) S.2.2.1).2.2.2, S.2.2.2)
       else ((ck_num T n 0 99 (ck_sk T n S.1) (-1) S.2.2.1).2.1, (ck_num T n 0 99 (ck_sk T n S.1) (-1) S.2.2.1).2.2.1, (ck_num T n 0 99 (ck_sk T n S.1) (-1) S.2.2.1).2.2.2, S.2.2.2))
    else if ck_hcx T n S.1 = 40 then ck_clR T n (W (ck_opR T n (ck_sk T n S.1, S.2)))
    else if ck_wo_ T n (ck_sk T n S.1) = 278194 ∨ ck_wo_ T n (ck_sk T n S.1) = 132741 ∨ ck_wo_ T n (ck_sk T n S.1) = 14137992 ∨ ck_wo_ T n (ck_sk T n S.1) = 294 then
      (if ck_wo_ T n (ck_sk T n S.1) = 294 then ck_br T n W (ck_ps T n (ck_sk T n S.1), S.2)
       else ck_emR (if ck_wo_ T n (ck_sk T n S.1) = 278194 then 1 else if ck_wo_ T n (ck_sk T n S.1) = 132741 then 2 else 3) 0 (ck_ps T n (ck_sk T n S.1), S.2))
    else (ck_sk T n S.1, nI (ck_sk T n S.1), 1, S.2.2.2))
  else S
/-- the reader where a loop ends -/
def ck_ex (T : Nat → Int32) (n : Nat) (S : ck_R) : ck_R := if S.2.1 = -1 then (ck_sk T n S.1, S.2) else S
def ck_one (T : Nat → Int32) (n : Nat) (U : ck_R → ck_R) (w : Int32) (S : ck_R) : ck_R :=
  if (U (ck_sk T n S.1 + 1, S.2)).2.1 = -1 then ck_emR w 0 (U (ck_sk T n S.1 + 1, S.2)) else U (ck_sk T n S.1 + 1, S.2)
def ck_lpt (T : Nat → Int32) (n : Nat) (U : ck_R → ck_R) : Nat → ck_R → ck_R
  | 0, S => ck_ex T n S
  | f + 1, S => if S.2.1 = -1 ∧ (ck_hcx T n S.1 = 42 ∨ ck_hcx T n S.1 = 47 ∨ ck_hcx T n S.1 = 37) then ck_lpt T n U f (ck_one T n U (if ck_hcx T n S.1 = 42 then 6 else if ck_hcx T n S.1 = 47 then 7 else 8) S) else ck_ex T n S
def ck_lpw (T : Nat → Int32) (n : Nat) (U : ck_R → ck_R) : Nat → ck_R → ck_R
  | 0, S => ck_ex T n S
  | f + 1, S => if S.2.1 = -1 ∧ (ck_hcx T n S.1 = 43 ∨ ck_hcx T n S.1 = 45) then ck_lpw T n U f (ck_one T n U (if ck_hcx T n S.1 = 43 then 4 else 5) S) else ck_ex T n S
def ck_te (T : Nat → Int32) (n : Nat) (U : ck_R → ck_R) (S : ck_R) : ck_R := ck_lpt T n U (n - (U S).1) (U S)
def ck_wh (T : Nat → Int32) (n : Nat) : Nat → ck_R → ck_R
  | 0, S => S
  | N + 1, S => ck_lpw T n (ck_te T n (ck_un T n (ck_wh T n N))) (n - (ck_te T n (ck_un T n (ck_wh T n N)) S).1) (ck_te T n (ck_un T n (ck_wh T n N)) S)
/-! what reading keeps: within the text; steps no more than letters; brackets as they were -/
def ck_sl (n j : Nat) (S : ck_R) : Prop := S.1 ≤ n ∧ (S.2.1 = -1 → S.2.2.2.2.1 + j ≤ S.1)
def ck_g1 (n j : Nat) (S S2 : ck_R) : Prop := ck_sl n j S2 ∧ (S2.2.1 = -1 → S.2.1 = -1 ∧ S2.2.2.2.1 = S.2.2.2.1) ∧ S.1 ≤ S2.1
def ck_gd (n : Nat) (W : ck_R → ck_R) : Prop := ∀ j S, ck_sl n j S → ck_g1 n j S (W S)
theorem ck_g1.tr {n j i : Nat} {S S2 S3 : ck_R} (h : ck_g1 n j S S2) (h2 : ck_g1 n i S2 S3) : ck_g1 n i S S3 :=
  ⟨h2.1, fun q => ⟨(h.2.1 (h2.2.1 q).1).1, ((h2.2.1 q).2).trans (h.2.1 (h2.2.1 q).1).2⟩, Nat.le_trans h.2.2 h2.2.2⟩
theorem ck_op_sl {T : Nat → Int32} {n j : Nat} {S : ck_R} (hn : n < 2 ^ 31) (h : ck_sl n j S) : ck_sl n (j + 1) (ck_opR T n S) ∧ ((ck_opR T n S).2.1 = -1 → S.2.1 = -1 ∧ ¬ S.2.2.2.1 = 8 ∧ (ck_opR T n S).2.2.2.1 = S.2.2.2.1 + 1) ∧ S.1 ≤ (ck_opR T n S).1 := by
  obtain ⟨a, b, k, o, c, C, N⟩ := S
  obtain ⟨h1, h2⟩ := h
  dsimp only at h1 h2
  have ha := ck_op_a (T := T) (b := b) (k := k) (o := o) h1
  have hs := ck_sk_le T h1
  unfold ck_sl ck_opR
  dsimp only
  refine ⟨⟨ha.2, ?_⟩, ?_, ha.1⟩
  · intro hb
    unfold ck_op at hb ⊢
    by_cases q : b = -1
    · have := h2 q
      rw [if_pos q] at hb ⊢
      by_cases q2 : ck_hcx T n a = 40
      · rw [if_pos q2] at hb ⊢
        by_cases q3 : o = 8
        · rw [if_pos q3] at hb
          exact absurd hb (ck_jm (Nat.lt_of_le_of_lt hs.2 hn))
        · rw [if_neg q3]; dsimp only; omega
      · rw [if_neg q2] at hb
        exact absurd hb (ck_jm (Nat.lt_of_le_of_lt hs.2 hn))
    · rw [if_neg q] at hb
      exact absurd hb q
  · intro hb
    unfold ck_op at hb ⊢
    by_cases q : b = -1
    · rw [if_pos q] at hb ⊢
      by_cases q2 : ck_hcx T n a = 40
      · rw [if_pos q2] at hb ⊢
        by_cases q3 : o = 8
        · rw [if_pos q3] at hb
          exact absurd hb (ck_jm (Nat.lt_of_le_of_lt hs.2 hn))
        · rw [if_neg q3]; exact ⟨q, q3, rfl⟩
      · rw [if_neg q2] at hb
        exact absurd hb (ck_jm (Nat.lt_of_le_of_lt hs.2 hn))
    · rw [if_neg q] at hb
      exact absurd hb q

theorem ck_ne_sl {T : Nat → Int32} {n j : Nat} {ch : Int32} (hch : ¬ ch = 0) {S : ck_R} (hn : n < 2 ^ 31) (h : ck_sl n j S) : ck_sl n j (ck_neR T n ch S) ∧ ((ck_neR T n ch S).2.1 = -1 → S.2.1 = -1 ∧ (ck_neR T n ch S).2.2.2.1 = S.2.2.2.1) ∧ S.1 ≤ (ck_neR T n ch S).1 := by
  obtain ⟨a, b, k, o, c, C, N⟩ := S
  obtain ⟨h1, h2⟩ := h
  dsimp only at h1 h2
  have ha := ck_need_a (T := T) (b := b) (k := k) h1 hch
  have hs := ck_sk_le T h1
  unfold ck_sl ck_neR
  dsimp only
  refine ⟨⟨ha.2, ?_⟩, ?_, ha.1⟩
  · intro hb
    unfold ck_need at hb ⊢
    by_cases q : b = -1
    · have := h2 q
      rw [if_pos q] at hb ⊢
      by_cases q2 : ck_hcx T n a = ch
      · rw [if_pos q2]; dsimp only; omega
      · rw [if_neg q2] at hb
        exact absurd hb (ck_jm (Nat.lt_of_le_of_lt hs.2 hn))
    · rw [if_neg q] at hb
      exact absurd hb q
  · intro hb
    unfold ck_need at hb
    by_cases q : b = -1
    · exact ⟨q, rfl⟩
    · rw [if_neg q] at hb
      exact absurd hb q
theorem ck_cl_sl {T : Nat → Int32} {n j : Nat} {S : ck_R} (hn : n < 2 ^ 31) (h : ck_sl n j S) : ck_sl n j (ck_clR T n S) ∧ ((ck_clR T n S).2.1 = -1 → S.2.1 = -1 ∧ (ck_clR T n S).2.2.2.1 = S.2.2.2.1 - 1) ∧ S.1 ≤ (ck_clR T n S).1 := by
  obtain ⟨a, b, k, o, c, C, N⟩ := S
  obtain ⟨h1, h2⟩ := h
  dsimp only at h1 h2
  have ha := ck_need_a (T := T) (b := b) (k := k) h1 (show ¬ (41 : Int32) = 0 by decide)
  have hs := ck_sk_le T h1
  unfold ck_sl ck_clR
  dsimp only
  refine ⟨⟨ha.2, ?_⟩, ?_, ha.1⟩
  · intro hb
    unfold ck_need at hb ⊢
    by_cases q : b = -1
    · have := h2 q
      rw [if_pos q] at hb ⊢
      by_cases q2 : ck_hcx T n a = 41
      · rw [if_pos q2]; dsimp only; omega
      · rw [if_neg q2] at hb
        exact absurd hb (ck_jm (Nat.lt_of_le_of_lt hs.2 hn))
    · rw [if_neg q] at hb
      exact absurd hb q
  · intro hb
    unfold ck_need at hb
    by_cases q : b = -1
    · exact ⟨q, rfl⟩
    · rw [if_neg q] at hb
      exact absurd hb q
theorem ck_cmp_sl {T : Nat → Int32} {n j : Nat} {S : ck_R} (hn : n < 2 ^ 31) (h : ck_sl n j S) : ck_g1 n j S (ck_cmp T n S).2 := by
  obtain ⟨a, b, k, o, c, C, N⟩ := S
  obtain ⟨h1, h2⟩ := h
  dsimp only at h1 h2
  have hs := ck_sk_le T h1
  unfold ck_cmp
  dsimp only
  by_cases q : b = -1
  · have := h2 q
    rw [if_pos q]
    dsimp only
    by_cases q2 : ck_hcx T n a = 60 ∨ ck_hcx T n a = 62 ∨ ck_hcx T n a = 61
    · rw [if_pos q2]
      have hl := ck_hcx_lt (T := T) (n := n) (a := a) (fun e => by rw [e] at q2; revert q2; decide)
      exact ⟨⟨by dsimp only; omega, fun _ => by dsimp only; omega⟩, fun _ => ⟨q, rfl⟩, by dsimp only; omega⟩
    · rw [if_neg q2]
      exact ⟨⟨by dsimp only; omega, fun e => absurd e (ck_jm (Nat.lt_of_le_of_lt hs.2 hn))⟩, fun e => absurd e (ck_jm (Nat.lt_of_le_of_lt hs.2 hn)), by dsimp only; omega⟩
  · rw [if_neg q]
    exact ⟨⟨h1, h2⟩, fun e => ⟨e, rfl⟩, Nat.le_refl _⟩
theorem ck_em_sl {n j : Nat} {w x : Int32} {S : ck_R} (h : ck_sl n (j + 1) S) : ck_g1 n j S (ck_emR w x S) :=
  ⟨⟨h.1, fun e => by have := h.2 e; show S.2.2.2.2.1 + 1 + j ≤ S.1; omega⟩, fun e => ⟨e, rfl⟩, Nat.le_refl _⟩
theorem ck_br_gd {T : Nat → Int32} {n : Nat} {W : ck_R → ck_R} (hn : n < 2 ^ 31) (hW : ck_gd n W) {j : Nat} {S : ck_R} (h : ck_sl n j S) : ck_g1 n j S (ck_br T n W S) := by
  obtain ⟨s0, f0, m0⟩ := ck_op_sl (T := T) hn h
  have g1 := hW _ _ s0
  have g2 := g1.tr (ck_cmp_sl (T := T) hn g1.1)
  have g3 := g2.tr (hW _ _ g2.1)
  have g4 := g3.tr (ck_ne_sl (T := T) (ch := 44) (by decide) hn g3.1)
  have g5 := g4.tr (hW _ _ g4.1)
  have g6 := g5.tr (ck_ne_sl (T := T) (ch := 44) (by decide) hn g5.1)
  have g7 := g6.tr (hW _ _ g6.1)
  obtain ⟨s8, f8, m8⟩ := ck_cl_sl (T := T) hn g7.1
  unfold ck_br
  dsimp only
  generalize ck_clR T n (W (ck_neR T n 44 (W (ck_neR T n 44 (W (ck_cmp T n (W (ck_opR T n S))).2))))) = S9 at s8 f8 m8
  have gg : ck_g1 n (j + 1) S S9 := ⟨s8, fun e => by
    obtain ⟨e1, e2⟩ := f8 e
    obtain ⟨e3, e4⟩ := g7.2.1 e1
    obtain ⟨e5, e6, e7⟩ := f0 e3
    refine ⟨e5, ?_⟩
    rw [e2, e4, e7, Int32.sub_eq_add_neg, Int32.add_assoc, ← Int32.sub_eq_add_neg, Int32.sub_self, Int32.add_zero], by have := g7.2.2; omega⟩
  split
  · exact gg.tr (ck_em_sl gg.1)
  · rename_i hq
    exact ⟨⟨gg.1.1, fun e => absurd e hq⟩, gg.2⟩
theorem ck_ps_pos {T : Nat → Int32} {n a : Nat} (h : ¬ ck_wo_ T n a = 0) (ha : a ≤ n) : a + 1 ≤ ck_ps T n a := by
  unfold ck_wo_ at h
  unfold ck_ps
  rcases Nat.eq_zero_or_pos (n - a) with e | e
  · rw [e, ck_wof] at h
    exact absurd rfl h
  · obtain ⟨m, hm⟩ : ∃ m, n - a = m + 1 := ⟨n - a - 1, by omega⟩
    rw [hm] at h ⊢
    by_cases q : 97 ≤ T a ∧ T a ≤ 122
    · rw [ck_psf, if_pos q]
      exact (ck_psf_le T m (a + 1)).1
    · rw [ck_wof, if_neg q] at h
      exact absurd rfl h
theorem ck_num_pos {T : Nat → Int32} {n a : Nat} {lo hi k : Int32} (ha : a ≤ n) (hd : 48 ≤ ck_hcx T n a ∧ ck_hcx T n a ≤ 57) : ck_sk T n a + 1 ≤ (ck_num T n lo hi a (-1) k).2.1 := by
  have hl := ck_hcx_lt (T := T) (n := n) (a := a) (fun e => by rw [e] at hd; revert hd; decide)
  have hT : T (ck_sk T n a) = ck_hcx T n a := by unfold ck_hcx; rw [if_pos hl]
  have hg : ck_sk T n a + 1 ≤ (ck_dgf T (n - ck_sk T n a) (ck_sk T n a) 0).2 := by
    obtain ⟨m, hm⟩ : ∃ m, n - ck_sk T n a = m + 1 := ⟨n - ck_sk T n a - 1, by omega⟩
    rw [hm, ck_dgf, hT, if_pos hd]
    exact (ck_dgf_le T m _ _).1
  unfold ck_num
  rw [if_pos rfl, if_pos hd]
  split <;> exact hg


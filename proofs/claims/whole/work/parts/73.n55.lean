/-! what a text without a fault tells fits its rows -/
def ck_vq (Q : ck_Qt) : Prop := Q.1.2.2.2.2.1 ≤ 400 ∧ Q.2.2.1 ≤ 24 ∧ (Q.2.2.2.1 = 0 ∨ Q.2.2.2.1 = 1)
theorem ck_th_w {T : Nat → Int32} {n : Nat} : ∀ f a k w e, w ≤ 24 → (ck_th T n f a k w e).2.2.2.1 ≤ 24
  | 0, a, k, w, e, h => h
  | f + 1, a, k, w, e, h => by
    unfold ck_th
    dsimp only
    split
    · split
      · exact h
      · split
        · exact ck_th_w f _ _ _ _ (by omega)
        · dsimp only; omega
    · exact h
theorem ck_str_v {T : Nat → Int32} {n : Nat} (hn : n ≤ 400) {Q : ck_Qt} (h : Q.1.1 ≤ n) (hv : ck_vq Q) : (ck_str T n Q).1.2.1 = -1 → ck_vq (ck_str T n Q) := by
  have hs := ck_sk_le T h
  have hp := ck_ps_le T hs.2
  unfold ck_str
  dsimp only
  split
  · intro e
    have hg := (ck_wh_gd (T := T) (by omega) 9 0 (ck_ps T n (ck_sk T n Q.1.1), -1, Q.1.2.2.1, 0, 0, Q.1.2.2.2.2.2) ⟨hp.2, fun _ => Nat.zero_le _⟩).1
    have h1 := hg.1
    have h2 := hg.2 e
    exact ⟨by dsimp only; omega, hv.2.1, Or.inl rfl⟩
  · split
    · exact fun _ => ⟨hv.1, ck_th_w _ _ _ _ _ (by decide), Or.inr rfl⟩
    · exact fun _ => hv
theorem ck_dsp_v {T : Nat → Int32} {n : Nat} (hn : n ≤ 400) {v : Int64} {S : ck_R} {p w : Nat} {h : Int32} {t e : Nat → Int32} (ha : S.1 ≤ n) (hv : ck_vq (S, p, w, h, t, e)) : (ck_dsp T n v S p w h t e).1.2.1 = -1 → ck_vq (ck_dsp T n v S p w h t e) := by
  unfold ck_dsp
  by_cases h0 : v = 19118
  · rw [if_pos h0]; exact fun _ => hv
  rw [if_neg h0]
  by_cases h1 : v = 67173
  · rw [if_pos h1]; exact fun _ => hv
  rw [if_neg h1]
  by_cases h2 : v = 755277
  · rw [if_pos h2]; exact fun _ => hv
  rw [if_neg h2]
  by_cases h3 : v = 758834
  · rw [if_pos h3]; exact fun _ => hv
  rw [if_neg h3]
  by_cases h4 : v = 546188
  · rw [if_pos h4]; exact fun _ => hv
  rw [if_neg h4]
  by_cases h5 : v = 16955865
  · rw [if_pos h5]; exact fun _ => hv
  rw [if_neg h5]
  by_cases h6 : v = 659105125
  · rw [if_pos h6]; exact ck_str_v hn ha hv
  rw [if_neg h6]
  by_cases h7 : v = 21091560627
  · rw [if_pos h7]; exact fun _ => hv
  rw [if_neg h7]
  by_cases h8 : v = 606717220435
  · rw [if_pos h8]; (generalize ck_qtr T n S.1 S.2.2.1 t 4 = z9); exact fun _ => hv
  rw [if_neg h8]
  by_cases h9 : v = 647370196
  · rw [if_pos h9]; (generalize ck_sil T n S.1 S.2.2.1 t = z9); exact fun _ => hv
  rw [if_neg h9]
  by_cases h10 : v = 104561315890
  · rw [if_pos h10]; (generalize ck_calR T n S.1 S.2.2.1 t = z9); exact fun _ => hv
  rw [if_neg h10]
  exact fun _ => hv
theorem ck_ne_f {T : Nat → Int32} {n : Nat} {ch : Int32} {S : ck_R} (h : (ck_neR T n ch S).2.1 = -1) : S.2.1 = -1 := by
  unfold ck_neR ck_need at h
  by_cases q : S.2.1 = -1
  · exact q
  · rw [if_neg q] at h; exact absurd h q
theorem ck_par_v {T : Nat → Int32} {n : Nat} (hn : n ≤ 400) {Q : ck_Qt} (ha : Q.1.1 ≤ n) (hv : ck_vq Q) : (ck_par T n Q).1.2.1 = -1 → ck_vq (ck_par T n Q) := by
  have hs := ck_sk_le T ha
  have hp := ck_ps_le T hs.2
  unfold ck_par
  split
  · exact fun _ => hv
  · split
    · exact fun _ => hv
    · dsimp only
      intro e
      have hd := ck_dsp_v (T := T) hn (v := ck_wo_ T n (ck_sk T n Q.1.1)) (S := (ck_ps T n (ck_sk T n Q.1.1), -1, Q.1.2.2)) (p := Q.2.1 + 1) (w := Q.2.2.1) (h := Q.2.2.2.1) (t := Q.2.2.2.2.1) (e := Q.2.2.2.2.2) hp.2 hv (ck_ne_f e)
      exact hd
theorem ck_rds_v {T : Nat → Int32} {n : Nat} (hn : n ≤ 400) : ∀ f Q, Q.1.1 ≤ n → Q.2.1 ≤ 16 → ck_vq Q → (ck_rds T n f Q).1.2.1 = -1 → ck_vq (ck_rds T n f Q)
  | 0, Q, _, _, hv => fun _ => hv
  | f + 1, Q, ha, hq, hv => by
    have hs := ck_sk_le T ha
    unfold ck_rds
    split
    · split
      · intro e
        have hg := ck_par_g (T := T) (n := n) (by omega) (Q := ((ck_sk T n Q.1.1, Q.1.2), Q.2)) hs.2 hq
        by_cases hb : (ck_par T n ((ck_sk T n Q.1.1, Q.1.2), Q.2)).1.2.1 = -1
        · exact ck_rds_v hn f _ hg.1 hg.2.2 (ck_par_v hn hs.2 hv hb) e
        · cases f with
          | zero => exact absurd e hb
          | succ f => rw [ck_rds, if_neg hb] at e; exact absurd e hb
      · exact fun _ => hv
    · exact fun _ => hv
/-- what refit and clock want of a text read without a fault -/
theorem ck_rd_v {M : Nat → Int32} {A : Nat → Nat → Int32} {n : Nat} (hn : n ≤ 400) (hb : (ck_rd M A n).1.2.1 = -1) : ck_vq (ck_rd M A n) :=
  ck_rds_v hn (n + 1) _ (Nat.zero_le n) (by show 0 ≤ 16; decide) ⟨by show 7 ≤ 400; decide, by show 0 ≤ 24; decide, Or.inl rfl⟩ hb


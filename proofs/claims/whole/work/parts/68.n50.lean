theorem ck_th_b {T : Nat → Int32} {n : Nat} : ∀ f a k w e, a ≤ n → a ≤ (ck_th T n f a k w e).1
  | 0, a, k, w, e, h => Nat.le_refl _
  | f + 1, a, k, w, e, h => by
    have hs := ck_sk_le T h
    have hn := ck_num_a (T := T) (n := n) (lo := 0) (hi := 12) (b := -1) (k := k) hs.2
    unfold ck_th
    generalize ck_num T n 0 12 (ck_sk T n a) (-1) k = r at hn
    have hs1 := ck_sk_le T hn.2
    dsimp only
    split
    · split
      · dsimp only; omega
      · split
        · rename_i q
          have hl := ck_hcx_lt (T := T) (n := n) (a := r.2.1) (by rw [q]; decide)
          have := ck_th_b (T := T) (n := n) f (ck_sk T n r.2.1 + 1) r.2.2.2 (w + 1) (upd e w r.1) (by omega)
          omega
        · dsimp only; omega
    · dsimp only; omega
theorem ck_str_b {T : Nat → Int32} {n : Nat} (hn : n < 2 ^ 31) {Q : ck_Qt} (h : Q.1.1 ≤ n) : Q.1.1 ≤ (ck_str T n Q).1.1 := by
  have hs := ck_sk_le T h
  have hp := ck_ps_le T hs.2
  unfold ck_str
  dsimp only
  split
  · have := (ck_wh_gd (T := T) hn 9 0 (ck_ps T n (ck_sk T n Q.1.1), -1, Q.1.2.2.1, 0, 0, Q.1.2.2.2.2.2) ⟨hp.2, fun _ => Nat.zero_le _⟩).2.2
    dsimp only at this ⊢
    omega
  · split
    · have := ck_th_b (T := T) (n := n) 25 (ck_ps T n (ck_sk T n Q.1.1)) Q.1.2.2.1 0 Q.2.2.2.2.2 hp.2
      dsimp only
      omega
    · exact hs.1
theorem ck_qtr_b {T : Nat → Int32} {n a : Nat} {k : Int32} {t : Nat → Int32} (h : a ≤ n) : ∀ i, a ≤ (ck_qtr T n a k t i).1
  | 0 => Nat.le_refl _
  | i + 1 => Nat.le_trans (ck_qtr_b h i) (ck_num_a (ck_qtr_a h i)).1
theorem ck_sil_b {T : Nat → Int32} {n a : Nat} {k : Int32} {t : Nat → Int32} (h : a ≤ n) : a ≤ (ck_sil T n a k t).1 := by
  have z1 := ck_num_a (T := T) (n := n) (lo := 0) (hi := 23) (b := -1) (k := k) h
  unfold ck_sil
  generalize ck_num T n 0 23 a (-1) k = r1 at z1
  have z2 := ck_need_a (T := T) (n := n) (ch := 45) (b := r1.2.2.1) (k := r1.2.2.2) z1.2 (by decide)
  dsimp only
  generalize ck_need T n 45 r1.2.1 r1.2.2.1 r1.2.2.2 = r2 at z2
  have z3 := ck_num_a (T := T) (n := n) (lo := 0) (hi := 23) (b := r2.2.1) (k := r2.2.2) z2.2
  generalize ck_num T n 0 23 r2.1 r2.2.1 r2.2.2 = r3 at z3
  have hs := ck_sk_le T z3.2
  have hp := ck_ps_le T hs.2
  unfold ck_silE
  split
  · split
    · dsimp only; omega
    · split <;> (dsimp only; omega)
  · dsimp only; omega
theorem ck_calR_b {T : Nat → Int32} {n a : Nat} {k : Int32} {t : Nat → Int32} (h : a ≤ n) : a ≤ (ck_calR T n a k t).1 := by
  have hs := ck_sk_le T h
  have hp := ck_ps_le T hs.2
  unfold ck_calR
  split
  · dsimp only; omega
  · split
    · dsimp only; omega
    · split <;> (dsimp only; omega)
theorem ck_dsp_ab {T : Nat → Int32} {n : Nat} (hn : n < 2 ^ 31) {v : Int64} {S : ck_R} {p w : Nat} {h : Int32} {t e : Nat → Int32} (ha : S.1 ≤ n) : S.1 ≤ (ck_dsp T n v S p w h t e).1.1 ∧ (ck_dsp T n v S p w h t e).1.1 ≤ n := by
  unfold ck_dsp
  by_cases h0 : v = 19118
  · rw [if_pos h0]; (try dsimp only); exact ck_num_a ha
  rw [if_neg h0]
  by_cases h1 : v = 67173
  · rw [if_pos h1]; (try dsimp only); exact ck_sgn_a ha
  rw [if_neg h1]
  by_cases h2 : v = 755277
  · rw [if_pos h2]; (try dsimp only); exact ck_sgn_a ha
  rw [if_neg h2]
  by_cases h3 : v = 758834
  · rw [if_pos h3]; (try dsimp only); exact ck_num_a ha
  rw [if_neg h3]
  by_cases h4 : v = 546188
  · rw [if_pos h4]; (try dsimp only); exact ck_num_a ha
  rw [if_neg h4]
  by_cases h5 : v = 16955865
  · rw [if_pos h5]; (try dsimp only); exact ck_num_a ha
  rw [if_neg h5]
  by_cases h6 : v = 659105125
  · rw [if_pos h6]; (try dsimp only); exact ⟨ck_str_b (Q := (S, p, w, h, t, e)) hn ha, ck_str_a (Q := (S, p, w, h, t, e)) hn ha⟩
  rw [if_neg h6]
  by_cases h7 : v = 21091560627
  · rw [if_pos h7]; (try dsimp only); exact ck_num_a ha
  rw [if_neg h7]
  by_cases h8 : v = 606717220435
  · rw [if_pos h8]; (try dsimp only); exact ⟨ck_qtr_b ha 4, ck_qtr_a ha 4⟩
  rw [if_neg h8]
  by_cases h9 : v = 647370196
  · rw [if_pos h9]; (try dsimp only); exact ⟨ck_sil_b ha, ck_sil_a ha⟩
  rw [if_neg h9]
  by_cases h10 : v = 104561315890
  · rw [if_pos h10]; (try dsimp only); exact ⟨ck_calR_b ha, ck_calR_a ha⟩
  rw [if_neg h10]
  (try dsimp only)
  exact ck_num_a ha
theorem ck_str_p {T : Nat → Int32} {n : Nat} {Q : ck_Qt} : (ck_str T n Q).2.1 = Q.2.1 := by
  unfold ck_str
  dsimp only
  split
  · rfl
  · split <;> rfl
theorem ck_dsp_p {T : Nat → Int32} {n : Nat} {v : Int64} {S : ck_R} {p w : Nat} {h : Int32} {t e : Nat → Int32} : (ck_dsp T n v S p w h t e).2.1 = p := by
  unfold ck_dsp
  by_cases h0 : v = 19118
  · rw [if_pos h0]
  rw [if_neg h0]
  by_cases h1 : v = 67173
  · rw [if_pos h1]
  rw [if_neg h1]
  by_cases h2 : v = 755277
  · rw [if_pos h2]
  rw [if_neg h2]
  by_cases h3 : v = 758834
  · rw [if_pos h3]
  rw [if_neg h3]
  by_cases h4 : v = 546188
  · rw [if_pos h4]
  rw [if_neg h4]
  by_cases h5 : v = 16955865
  · rw [if_pos h5]
  rw [if_neg h5]
  by_cases h6 : v = 659105125
  · rw [if_pos h6]; exact ck_str_p
  rw [if_neg h6]
  by_cases h7 : v = 21091560627
  · rw [if_pos h7]
  rw [if_neg h7]
  by_cases h8 : v = 606717220435
  · rw [if_pos h8]
  rw [if_neg h8]
  by_cases h9 : v = 647370196
  · rw [if_pos h9]
  rw [if_neg h9]
  by_cases h10 : v = 104561315890
  · rw [if_pos h10]
  rw [if_neg h10]
/-- a part moves the reader on -/
theorem ck_par_g {T : Nat → Int32} {n : Nat} (hn : n < 2 ^ 31) {Q : ck_Qt} (ha : Q.1.1 ≤ n) (hp : Q.2.1 ≤ 16) : (ck_par T n Q).1.1 ≤ n ∧ ((ck_par T n Q).1.2.1 = -1 → Q.1.1 + 1 ≤ (ck_par T n Q).1.1) ∧ (ck_par T n Q).2.1 ≤ 16 := by
  have hs := ck_sk_le T ha
  have hj : ¬ nI (ck_sk T n Q.1.1) = -1 := ck_jm (Nat.lt_of_le_of_lt hs.2 hn)
  unfold ck_par
  by_cases h0 : ck_isP (ck_wo_ T n (ck_sk T n Q.1.1)) = 0
  · rw [if_pos h0]
    exact ⟨hs.2, fun e => absurd e hj, hp⟩
  · rw [if_neg h0]
    by_cases h16 : Q.2.1 = 16
    · rw [if_pos h16]
      exact ⟨hs.2, fun e => absurd e hj, hp⟩
    · rw [if_neg h16]
      have hps := ck_ps_pos (T := T) (n := n) (a := ck_sk T n Q.1.1) (fun e => h0 (by rw [e]; decide)) hs.2
      have hpl := ck_ps_le T hs.2
      have hd := ck_dsp_ab (T := T) hn (v := ck_wo_ T n (ck_sk T n Q.1.1)) (S := (ck_ps T n (ck_sk T n Q.1.1), -1, Q.1.2.2)) (p := Q.2.1 + 1) (w := Q.2.2.1) (h := Q.2.2.2.1) (t := Q.2.2.2.2.1) (e := Q.2.2.2.2.2) hpl.2
      have hdp := @ck_dsp_p T n (ck_wo_ T n (ck_sk T n Q.1.1)) (ck_ps T n (ck_sk T n Q.1.1), -1, Q.1.2.2) (Q.2.1 + 1) Q.2.2.1 Q.2.2.2.1 Q.2.2.2.2.1 Q.2.2.2.2.2
      dsimp only at hd ⊢
      generalize ck_dsp T n (ck_wo_ T n (ck_sk T n Q.1.1)) (ck_ps T n (ck_sk T n Q.1.1), -1, Q.1.2.2) (Q.2.1 + 1) Q.2.2.1 Q.2.2.2.1 Q.2.2.2.2.1 Q.2.2.2.2.2 = D at hd hdp
      have hne := ck_need_a (T := T) (n := n) (ch := 59) (b := D.1.2.1) (k := D.1.2.2.1) hd.2 (by decide)
      refine ⟨hne.2, fun _ => ?_, by omega⟩
      show Q.1.1 + 1 ≤ (ck_need T n 59 D.1.1 D.1.2.1 D.1.2.2.1).1
      omega
def ck_rds (T : Nat → Int32) (n : Nat) : Nat → ck_Qt → ck_Qt
  | 0, Q => Q
  | f + 1, Q => if Q.1.2.1 = -1 then (if ck_sk T n Q.1.1 < n then ck_rds T n f (ck_par T n ((ck_sk T n Q.1.1, Q.1.2), Q.2)) else ((ck_sk T n Q.1.1, Q.1.2), Q.2)) else Q
/-- a text, read -/
def ck_rd (M : Nat → Int32) (A : Nat → Nat → Int32) (n : Nat) : ck_Qt :=
  ck_rds (A 95) n (n + 1) ((0, -1, M 9, M 11, 7, ck_rC (A 97), ck_rN (A 98)), 0, 0, 0, ck_t0 (A 96), A 99)
theorem ck_to_qM (M : Nat → Int32) {c w : Nat} (h12 : M 12 = nI c) (h13 : M 13 = nI w) (n : Nat) : upd (upd (upd (upd M 6 (nI n)) 7 0) 8 (-1)) 10 0 = ck_pM (ck_qM (upd M 6 (nI n)) 0 w (M 15)) 0 (-1) (M 9) (M 11) c := by
  funext j
  unfold upd ck_pM ck_qM
  by_cases e10 : j = 10
  · subst e10; rfl
  by_cases e8 : j = 8
  · subst e8; rfl
  by_cases e7 : j = 7
  · subst e7; rfl
  by_cases e6 : j = 6
  · subst e6; rfl
  by_cases e9 : j = 9
  · subst e9; rfl
  by_cases e11 : j = 11
  · subst e11; rfl
  by_cases e12 : j = 12
  · subst e12; exact h12
  by_cases e13 : j = 13
  · subst e13; exact h13
  by_cases e15 : j = 15
  · subst e15; rfl
  simp only [e10, e8, e7, e6, e9, e11, e12, e13, e15, if_false]
theorem ck_to_qA (A : Nat → Nat → Int32) : ck_pA (ck_qA A (A 96) (A 99)) (A 97) (A 98) = A := by
  funext i
  unfold ck_pA ck_qA
  by_cases e1 : i = 97
  · subst e1; rfl
  by_cases e2 : i = 98
  · subst e2; rfl
  by_cases e3 : i = 96
  · subst e3; rfl
  by_cases e4 : i = 99
  · subst e4; rfl
  rw [if_neg e1, if_neg e2, if_neg e3, if_neg e4]


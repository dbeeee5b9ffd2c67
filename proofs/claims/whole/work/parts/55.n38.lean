theorem ck_g1_f {n j : Nat} {S S2 : ck_R} (h : S2.1 ≤ n) (hb : ¬ S2.2.1 = -1) (hm : S.1 ≤ S2.1) : ck_g1 n j S S2 := ⟨⟨h, fun e => absurd e hb⟩, fun e => absurd e hb, hm⟩
theorem ck_un_gd {T : Nat → Int32} {n : Nat} {W : ck_R → ck_R} (hn : n < 2 ^ 31) (hW : ck_gd n W) : ck_gd n (ck_un T n W) := by
  intro j S h
  obtain ⟨h1, h2⟩ := id h
  have hs := ck_sk_le T h1
  unfold ck_un
  by_cases hb : S.2.1 = -1
  · have h3 := h2 hb
    rw [if_pos hb]
    by_cases hd : 48 ≤ ck_hcx T n S.1 ∧ ck_hcx T n S.1 ≤ 57
    · rw [if_pos hd]
      have hp := ck_num_pos (T := T) (n := n) (a := ck_sk T n S.1) (lo := 0) (hi := 99) (k := S.2.2.1) hs.2 (by rw [ck_hck]; exact hd)
      rw [ck_skk] at hp
      have hq := ck_num_a (T := T) (n := n) (lo := 0) (hi := 99) (a := ck_sk T n S.1) (b := -1) (k := S.2.2.1) hs.2
      generalize ck_num T n 0 99 (ck_sk T n S.1) (-1) S.2.2.1 = r at hp hq
      by_cases hr : r.2.2.1 = -1
      · rw [if_pos hr]
        refine ⟨⟨hq.2, fun _ => ?_⟩, fun _ => ⟨hb, rfl⟩, ?_⟩
        · show S.2.2.2.2.1 + 1 + j ≤ r.2.1; omega
        · show S.1 ≤ r.2.1; omega
      · rw [if_neg hr]
        exact ck_g1_f hq.2 hr (show S.1 ≤ r.2.1 by omega)
    · rw [if_neg hd]
      have g0 : ck_g1 n j S (ck_sk T n S.1, S.2) := ⟨⟨hs.2, fun _ => by show S.2.2.2.2.1 + j ≤ ck_sk T n S.1; omega⟩, fun e => ⟨hb, rfl⟩, hs.1⟩
      by_cases hc : ck_hcx T n S.1 = 40
      · rw [if_pos hc]
        obtain ⟨s0, f0, m0⟩ := ck_op_sl (T := T) hn g0.1
        have g1 := hW _ _ s0
        obtain ⟨s8, f8, m8⟩ := ck_cl_sl (T := T) hn g1.1
        generalize ck_clR T n (W (ck_opR T n (ck_sk T n S.1, S.2))) = S9 at s8 f8 m8
        refine ⟨⟨s8.1, fun e => by have := s8.2 e; omega⟩, fun e => ?_, ?_⟩
        · obtain ⟨e1, e2⟩ := f8 e
          obtain ⟨e3, e4⟩ := g1.2.1 e1
          obtain ⟨e5, e6, e7⟩ := f0 e3
          refine ⟨hb, ?_⟩
          rw [e2, e4, e7, Int32.sub_eq_add_neg, Int32.add_assoc, ← Int32.sub_eq_add_neg, Int32.sub_self, Int32.add_zero]
        · have a1 := g1.2.2
          have a2 := g0.2.2
          dsimp only at m0 a2
          omega
      · rw [if_neg hc]
        by_cases hw : ck_wo_ T n (ck_sk T n S.1) = 278194 ∨ ck_wo_ T n (ck_sk T n S.1) = 132741 ∨ ck_wo_ T n (ck_sk T n S.1) = 14137992 ∨ ck_wo_ T n (ck_sk T n S.1) = 294
        · rw [if_pos hw]
          have hp := ck_ps_pos (T := T) (n := n) (a := ck_sk T n S.1) (fun e => by rw [e] at hw; revert hw; decide) hs.2
          have hp2 := ck_ps_le T (n := n) (a := ck_sk T n S.1) hs.2
          have g2 : ck_g1 n (j + 1) S (ck_ps T n (ck_sk T n S.1), S.2) := ⟨⟨hp2.2, fun _ => by show S.2.2.2.2.1 + (j + 1) ≤ ck_ps T n (ck_sk T n S.1); omega⟩, fun e => ⟨hb, rfl⟩, by show S.1 ≤ ck_ps T n (ck_sk T n S.1); omega⟩
          split
          · have g3 := g2.tr (ck_br_gd (T := T) hn hW g2.1)
            exact ⟨⟨g3.1.1, fun e => by have := g3.1.2 e; omega⟩, g3.2⟩
          · exact g2.tr (ck_em_sl g2.1)
        · rw [if_neg hw]
          exact ck_g1_f hs.2 (ck_jm (Nat.lt_of_le_of_lt hs.2 hn)) hs.1
  · rw [if_neg hb]
    exact ⟨h, fun e => ⟨e, rfl⟩, Nat.le_refl _⟩
theorem ck_ex_g {T : Nat → Int32} {n j : Nat} {S : ck_R} (h : ck_sl n j S) : ck_g1 n j S (ck_ex T n S) := by
  have hs := ck_sk_le T h.1
  unfold ck_ex
  split
  · rename_i hb
    exact ⟨⟨hs.2, fun _ => by have := h.2 hb; show S.2.2.2.2.1 + j ≤ ck_sk T n S.1; omega⟩, fun _ => ⟨hb, rfl⟩, hs.1⟩
  · exact ⟨h, fun e => ⟨e, rfl⟩, Nat.le_refl _⟩
/-- one more term, or unit, and its sign -/
theorem ck_one_g {T : Nat → Int32} {n j : Nat} {U : ck_R → ck_R} {w : Int32} {S : ck_R} (hU : ck_gd n U) (h : ck_sl n j S) (hb : S.2.1 = -1) (hc : ¬ ck_hcx T n S.1 = 0) : ck_g1 n j S (ck_one T n U w S) ∧ S.1 + 1 ≤ (ck_one T n U w S).1 := by
  have hs := ck_sk_le T h.1
  have hl := ck_hcx_lt hc
  have h3 := h.2 hb
  have g0 : ck_g1 n (j + 1) S (ck_sk T n S.1 + 1, S.2) := ⟨⟨by show ck_sk T n S.1 + 1 ≤ n; omega, fun _ => by show S.2.2.2.2.1 + (j + 1) ≤ ck_sk T n S.1 + 1; omega⟩, fun e => ⟨hb, rfl⟩, by show S.1 ≤ ck_sk T n S.1 + 1; omega⟩
  have g1 := hU _ _ g0.1
  have g2 := g0.tr g1
  have m : S.1 + 1 ≤ (U (ck_sk T n S.1 + 1, S.2)).1 := by have := g1.2.2; dsimp only at this; omega
  unfold ck_one
  split
  · exact ⟨g2.tr (ck_em_sl g2.1), m⟩
  · rename_i hq
    exact ⟨ck_g1_f g2.1.1 hq g2.2.2, m⟩
theorem ck_lpt_g {T : Nat → Int32} {n j : Nat} {U : ck_R → ck_R} (hU : ck_gd n U) : ∀ f S, ck_sl n j S → ck_g1 n j S (ck_lpt T n U f S)
  | 0, S, h => ck_ex_g h
  | f + 1, S, h => by
    unfold ck_lpt
    split
    · rename_i hq
      have g := (ck_one_g (T := T) (w := if ck_hcx T n S.1 = 42 then 6 else if ck_hcx T n S.1 = 47 then 7 else 8) hU h hq.1 (fun e => by rw [e] at hq; revert hq; exact fun q => absurd q.2 (by decide))).1
      exact g.tr (ck_lpt_g hU f _ g.1)
    · exact ck_ex_g h
theorem ck_lpw_g {T : Nat → Int32} {n j : Nat} {U : ck_R → ck_R} (hU : ck_gd n U) : ∀ f S, ck_sl n j S → ck_g1 n j S (ck_lpw T n U f S)
  | 0, S, h => ck_ex_g h
  | f + 1, S, h => by
    unfold ck_lpw
    split
    · rename_i hq
      have g := (ck_one_g (T := T) (w := if ck_hcx T n S.1 = 43 then 4 else 5) hU h hq.1 (fun e => by rw [e] at hq; revert hq; exact fun q => absurd q.2 (by decide))).1
      exact g.tr (ck_lpw_g hU f _ g.1)
    · exact ck_ex_g h
theorem ck_te_gd {T : Nat → Int32} {n : Nat} {U : ck_R → ck_R} (hU : ck_gd n U) : ck_gd n (ck_te T n U) := fun j S h => (hU j S h).tr (ck_lpt_g hU _ _ (hU j S h).1)
theorem ck_wh_gd {T : Nat → Int32} {n : Nat} (hn : n < 2 ^ 31) : ∀ N, ck_gd n (ck_wh T n N)
  | 0 => fun _ S h => ⟨h, fun e => ⟨e, rfl⟩, Nat.le_refl _⟩
  | N + 1 => fun j S h => by
    have hT := ck_te_gd (T := T) (ck_un_gd (T := T) hn (ck_wh_gd (T := T) hn N))
    exact (hT j S h).tr (ck_lpw_g hT _ _ (hT j S h).1)
/-! nothing is read behind a fault -/
def ck_st (W : ck_R → ck_R) : Prop := ∀ S, ¬ S.2.1 = -1 → W S = S
theorem ck_un_st {T : Nat → Int32} {n : Nat} {W : ck_R → ck_R} : ck_st (ck_un T n W) := fun S h => by unfold ck_un; rw [if_neg h]
theorem ck_ex_st {T : Nat → Int32} {n : Nat} : ck_st (ck_ex T n) := fun S h => by unfold ck_ex; rw [if_neg h]
theorem ck_lpt_st {T : Nat → Int32} {n : Nat} {U : ck_R → ck_R} : ∀ f, ck_st (ck_lpt T n U f)
  | 0 => ck_ex_st
  | f + 1 => fun S h => by unfold ck_lpt; rw [if_neg (fun q => h q.1)]; exact ck_ex_st S h
theorem ck_lpw_st {T : Nat → Int32} {n : Nat} {U : ck_R → ck_R} : ∀ f, ck_st (ck_lpw T n U f)
  | 0 => ck_ex_st
  | f + 1 => fun S h => by unfold ck_lpw; rw [if_neg (fun q => h q.1)]; exact ck_ex_st S h
theorem ck_te_st {T : Nat → Int32} {n : Nat} {U : ck_R → ck_R} (hU : ck_st U) : ck_st (ck_te T n U) := fun S h => by unfold ck_te; rw [hU S h]; exact ck_lpt_st _ S h
theorem ck_wh_st {T : Nat → Int32} {n : Nat} : ∀ N, ck_st (ck_wh T n N)
  | 0 => fun S _ => rfl
  | N + 1 => fun S h => by
    have hT : ck_st (ck_te T n (ck_un T n (ck_wh T n N))) := ck_te_st ck_un_st
    unfold ck_wh; rw [hT S h]; exact ck_lpw_st _ S h
/-- how deep brackets may still go -/
def ck_lv (N : Nat) (S : ck_R) : Prop := S.2.1 = -1 → ∃ q : Nat, S.2.2.2.1 = nI q ∧ q ≤ 8 ∧ 9 ≤ q + N
def ck_pW (M : Nat → Int32) (A : Nat → Nat → Int32) (L : Nat → Nat → Int64) (R : kx_P) (S : ck_R) : kx_P := mW (ck_pM M S.1 S.2.1 S.2.2.1 S.2.2.2.1 S.2.2.2.2.1) (ck_pA A S.2.2.2.2.2.1 S.2.2.2.2.2.2) L R
theorem ck_pW_o (M A L R S) : ck_pW M A L R S 93 = kO 11 (kf mR (ck_pM M S.1 S.2.1 S.2.2.1 S.2.2.2.1 S.2.2.2.2.1)) := rfl
theorem ck_pW_t (M A L R) (a : Nat) (b k o : Int32) (c : Nat) (C N : Nat → Int32) : ck_pW M A L R (a, b, k, o, c, C, N) = mW (ck_pM M a b k o c) (ck_pA A C N) L R := rfl


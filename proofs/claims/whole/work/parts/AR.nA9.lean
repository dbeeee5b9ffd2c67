theorem cx_PD.ri {Q : kx_P} {w : Nat} {T : Nat → Int32} {n : Nat} {R : ck_Qt} {sz : Nat} {y : Int32} {r : Option Value} {P2 : kx_P} {s2 : Nat} (h : cx_PD Q w T n R sz (fun r => r = some (.int y)) r P2 s2) : kx_rok (some .int) r := by
  obtain ⟨F, V, te, qu, Fo, st, h1, -⟩ := h
  exact ⟨_, h1⟩
theorem cx_pp {T : Nat → Int32} {n : Nat} {S : ck_R} {p wc : Nat} {h : Int32} {t e : Nat → Int32} (hg : (ck_par T n (S, p, wc, h, t, e)).1.2.1 = -1) (hb : ∀ a : Nat, a ≤ n → ¬ nI a = -1) (ha : ck_sk T n S.1 ≤ n) : (ck_par T n (S, p, wc, h, t, e)).2.1 = p + 1 := by
  unfold ck_par at hg ⊢
  dsimp only at hg ⊢
  by_cases h1 : ck_isP (ck_wo_ T n (ck_sk T n S.1)) = 0
  · rw [if_pos h1] at hg
    exact absurd hg (hb _ ha)
  · rw [if_neg h1] at hg ⊢
    by_cases h2 : p = 16
    · rw [if_pos h2] at hg
      exact absurd hg (hb _ ha)
    · rw [if_neg h2]
      exact ck_dsp_p

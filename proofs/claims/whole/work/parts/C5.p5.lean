/-! PURE: acts that bring a wheel into step, both ways. -/
theorem ck_us_24 {nx k : Nat} : ck_us (nI ((nx + k) % 24)) = nI ((nx % 24 + k + 11) % 12 + 1) := by
  unfold ck_us
  rw [show (11 : Int32) = nI 11 from rfl, nI_add, show (12 : Int32) = nI 12 from rfl, pk_rem (by omega) (by decide) (by decide), nI_1]
  congr 2
  omega
theorem cx_sx_eq {A : Nat → Nat → Int32} {T : Nat → Int32} {c wm nx fr : Nat} (hwm : 1 ≤ wm) (hT : ∀ j, j < wm → T j = A 104 (24 * c + j)) : ∀ n k, cx_sx T wm nx fr n k = ck_sx A c wm nx fr n k := by
  intro n
  induction n with
  | zero => intro k; rfl
  | succ n ih =>
    intro k
    rw [cx_sx, ck_sx, hT _ (Nat.mod_lt _ (by omega)), ck_us_24, ih]
theorem cx_fi_mt {A : Nat → Nat → Int32} {c wm nx p : Nat} {f : Nat → Int32} (hf : ∀ k, f k = ck_sx A c wm nx ((p + k) % wm) 24 0) : ∀ n k, k ≤ ck_mt A c wm nx p n k ∧ ((ck_mt A c wm nx p n k = k + n ∧ cx_fi f n k = -1) ∨ (ck_mt A c wm nx p n k < k + n ∧ cx_fi f n k = nI (ck_mt A c wm nx p n k) ∧ ¬ f (ck_mt A c wm nx p n k) = 0)) ∧ ∀ j, k ≤ j → j < ck_mt A c wm nx p n k → f j = 0 := by
  intro n
  induction n with
  | zero =>
    intro k
    exact ⟨Nat.le_refl _, Or.inl ⟨rfl, rfl⟩, fun j h1 h2 => absurd h2 (by rw [ck_mt]; omega)⟩
  | succ n ih =>
    intro k
    rw [ck_mt, cx_fi, ← hf]
    by_cases h : f k = 0
    · rw [if_pos h, if_pos h]
      obtain ⟨i1, i2, i3⟩ := ih (k + 1)
      refine ⟨by omega, ?_, fun j h1 h2 => ?_⟩
      · rcases i2 with ⟨a1, a2⟩ | ⟨a1, a2, a3⟩
        · exact Or.inl ⟨by omega, a2⟩
        · exact Or.inr ⟨by omega, a2, a3⟩
      · by_cases e : j = k
        · rw [e]; exact h
        · exact i3 j (by omega) h2
    · rw [if_neg h, if_neg h]
      exact ⟨Nat.le_refl _, Or.inr ⟨by omega, rfl, h⟩, fun j h1 h2 => by omega⟩
theorem cx_fi_ml {A : Nat → Nat → Int32} {c wm nx p lf : Nat} {g : Nat → Int32} (hg : ∀ k, g k = ck_sx A c wm nx ((p + wm - k) % wm) 24 0) (hl : ¬ g lf = 0) : ∀ n k m, k + n = lf → n + 1 ≤ m → cx_fi g m k = nI (ck_ml A c wm nx p lf n k) := by
  intro n
  induction n with
  | zero =>
    intro k m hk hm
    obtain ⟨m, rfl⟩ : ∃ q, m = q + 1 := ⟨m - 1, by omega⟩
    have e : k = lf := by omega
    rw [cx_fi, ck_ml, e, if_neg hl]
  | succ n ih =>
    intro k m hk hm
    obtain ⟨m, rfl⟩ : ∃ q, m = q + 1 := ⟨m - 1, by omega⟩
    rw [cx_fi, ck_ml, ← hg]
    by_cases h : g k = 0
    · rw [if_pos h, if_pos h]
      exact ih (k + 1) m (by omega) (by omega)
    · rw [if_neg h, if_neg h]
theorem ck_mc_ro {A : Nat → Nat → Int32} {T : Nat → Int32} {c wm p : Nat} (hwm : 1 ≤ wm) (hT : ∀ j, j < wm → T j = A 104 (24 * c + j)) : ∀ t, ck_mc A c wm p t = nI t + cx_ro T wm p t := by
  intro t
  induction t with
  | zero => rfl
  | succ t ih =>
    rw [ck_mc, cx_ro, ih, hT _ (Nat.mod_lt _ (by omega)), ← nI_1 t]
    generalize A 104 (24 * c + (p + t) % wm) = x
    generalize cx_ro T wm p t = y
    generalize nI t = z
    rw [Int32.add_assoc, Int32.add_assoc, ← Int32.add_assoc y, Int32.add_comm y, Int32.add_assoc 1 y, Int32.add_comm y x, ← Int32.add_assoc 1 x y]
theorem cx_md_eq {M : Nat → Int32} {A : Nat → Nat → Int32} {T : Nat → Int32} {c wm nx p : Nat} (hwm : 1 ≤ wm ∧ wm ≤ 24) (hp : p < wm) (hT : ∀ j, j < wm → T j = A 104 (24 * c + j)) {T0 : Nat} (hT0 : ck_mt A c wm nx p wm 0 = T0) (rg : Int32) :
    (T0 = wm ∧ cx_fi (fun k => cx_sx T wm nx ((p + k) % wm) 24 0) wm 0 = -1) ∨
    (T0 < wm ∧ cx_fi (fun k => cx_sx T wm nx ((p + k) % wm) 24 0) wm 0 = nI T0 ∧ ∃ l, l ≤ 24 ∧ cx_fi (fun k => cx_sx T wm nx ((p + wm - k) % wm) 24 0) wm 0 = nI l ∧ ck_ml A c wm nx p ((wm - T0) % wm) ((wm - T0) % wm - 1) 1 = l ∧
      ∀ wh, wh < 3 → cx_md wh (nI T0) (nI l) (cx_ro T wm p T0) rg = ck_fmM M rg (ck_mc A c wm p T0) T0 l (53 + wh)) := by
  have hf : ∀ k, (fun k => cx_sx T wm nx ((p + k) % wm) 24 0) k = ck_sx A c wm nx ((p + k) % wm) 24 0 := fun k => cx_sx_eq hwm.1 hT 24 0
  have hg : ∀ k, (fun k => cx_sx T wm nx ((p + wm - k) % wm) 24 0) k = ck_sx A c wm nx ((p + wm - k) % wm) 24 0 := fun k => cx_sx_eq hwm.1 hT 24 0
  obtain ⟨-, h2, h3⟩ := cx_fi_mt (A := A) (c := c) (wm := wm) (nx := nx) (p := p) hf wm 0
  rw [hT0] at h2 h3
  rcases h2 with ⟨a1, a2⟩ | ⟨a1, a2, a3⟩
  · exact Or.inl ⟨by omega, a2⟩
  · refine Or.inr ⟨by omega, a2, ?_⟩
    have key : ∃ l, l ≤ 24 ∧ cx_fi (fun k => cx_sx T wm nx ((p + wm - k) % wm) 24 0) wm 0 = nI l ∧ ck_ml A c wm nx p ((wm - T0) % wm) ((wm - T0) % wm - 1) 1 = l := by
      by_cases h0 : T0 = 0
      · refine ⟨0, by omega, ?_, ?_⟩
        · obtain ⟨w, rfl⟩ : ∃ q, wm = q + 1 := ⟨wm - 1, by omega⟩
          rw [cx_fi, if_neg]
          show ¬ cx_sx T (w + 1) nx ((p + (w + 1) - 0) % (w + 1)) 24 0 = 0
          rw [show (p + (w + 1) - 0) % (w + 1) = (p + T0) % (w + 1) by rw [h0, Nat.sub_zero, Nat.add_mod_right]; rfl]
          exact a3
        · rw [h0, Nat.sub_zero, Nat.mod_self]
          rfl
      · have hl : (wm - T0) % wm = wm - T0 := Nat.mod_eq_of_lt (by omega)
        rw [hl]
        have hgl : ¬ (fun k => cx_sx T wm nx ((p + wm - k) % wm) 24 0) (wm - T0) = 0 := by
          show ¬ cx_sx T wm nx ((p + wm - (wm - T0)) % wm) 24 0 = 0
          rw [show p + wm - (wm - T0) = p + T0 by omega]
          exact a3
        have hm := cx_fi_ml (A := A) (c := c) (wm := wm) (nx := nx) (p := p) (lf := wm - T0) hg hgl (wm - T0 - 1) 1 (wm - 1) (by omega) (by omega)
        have hle : ∀ n k, k ≤ wm - T0 → k + n = wm - T0 → ck_ml A c wm nx p (wm - T0) n k ≤ wm - T0 := by
          intro n
          induction n with
          | zero => intro k _ _; exact Nat.le_refl _
          | succ n ih =>
            intro k h1 h2
            rw [ck_ml]
            split
            · exact ih (k + 1) (by omega) (by omega)
            · exact h1
        refine ⟨_, ?_, ?_, rfl⟩
        · have := hle (wm - T0 - 1) 1 (by omega) (by omega)
          omega
        · rw [← hm]
          obtain ⟨w, rfl⟩ : ∃ q, wm = q + 1 := ⟨wm - 1, by omega⟩
          rw [cx_fi, if_pos]
          · rfl
          · show cx_sx T (w + 1) nx ((p + (w + 1) - 0) % (w + 1)) 24 0 = 0
            rw [show (p + (w + 1) - 0) % (w + 1) = (p + 0) % (w + 1) by rw [Nat.sub_zero, Nat.add_mod_right]; rfl]
            exact h3 0 (Nat.le_refl _) (by omega)
    obtain ⟨l, hl24, k1, k2⟩ := key
    refine ⟨l, hl24, k1, k2, fun wh hwh => ?_⟩
    rw [ck_mc_ro hwm.1 hT]
    generalize cx_ro T wm p T0 = tk
    have e1 : nI T0 + tk - nI T0 = tk := by rw [Int32.add_comm, Int32.add_sub_cancel]
    have e10 : (10 : Int32) * nI l = nI (10 * l) := by rw [show (10 : Int32) = nI 10 from rfl, pk_mul]
    unfold cx_md ck_fmM
    try dsimp only
    rw [e1, e10]
    by_cases c1 : rg < tk
    · rw [if_pos c1, if_neg (Int32.not_le.mpr c1)]
      rcases (show wh = 0 ∨ wh = 1 ∨ wh = 2 by omega) with rfl | rfl | rfl
      · rw [if_pos rfl, pk_un (by decide), pk_un (by decide), pk_us]
      · rw [if_neg (by decide), if_pos rfl, pk_un (by decide), pk_us]
      · rw [if_neg (by decide), if_neg (by decide), pk_us]
    · rw [if_neg c1, if_pos (Int32.not_lt.mp c1)]
      by_cases c2 : nI (10 * l) < nI T0 + tk
      · rw [if_pos c2, if_neg (Int32.not_le.mpr c2)]
        rcases (show wh = 0 ∨ wh = 1 ∨ wh = 2 by omega) with rfl | rfl | rfl
        · rw [if_pos rfl, pk_un (by decide), pk_un (by decide), pk_us]
        · rw [if_neg (by decide), if_pos rfl, pk_un (by decide), pk_us]
        · rw [if_neg (by decide), if_neg (by decide), pk_us]
      · rw [if_neg c2, if_pos (Int32.not_lt.mp c2)]
        rcases (show wh = 0 ∨ wh = 1 ∨ wh = 2 by omega) with rfl | rfl | rfl
        · rw [if_pos rfl, pk_un (by decide), pk_un (by decide), pk_us]
        · rw [if_neg (by decide), if_pos rfl, pk_un (by decide), pk_us]
        · rw [if_neg (by decide), if_neg (by decide), pk_us]

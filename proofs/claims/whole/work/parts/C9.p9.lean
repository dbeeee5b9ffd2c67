/-! PURE: the plan, both ways. -/
theorem cP_ag {lf run : Nat → Nat} {s t : Nat} : ∀ n i, (ck_ag lf run s t n i = true ↔ ∀ j, i ≤ j → j < i + n → ck_ok (lf j) (run j) (s / 11 ^ j % 11) t = true) := by
  intro n
  induction n with
  | zero => intro i; exact ⟨fun _ j h1 h2 => by omega, fun _ => rfl⟩
  | succ n ih =>
    intro i
    rw [ck_ag, Bool.and_eq_true, ih]
    constructor
    · rintro ⟨h1, h2⟩ j h3 h4
      by_cases e : j = i
      · rw [e]; exact h1
      · exact h2 j (by omega) (by omega)
    · intro h
      exact ⟨h i (Nat.le_refl _) (by omega), fun j h3 h4 => h j (by omega) (by omega)⟩
/-- at how many times more a clock goes on unwound -/
def cP_sl (lf run la t : Nat) : Nat := if la = 0 then (lf - 1) / 1440 - t else run + la - 2 - t
theorem cP_u {lf run la t : Nat} (hla : la ≤ t) (h : ck_ok lf run la t = true) : (ck_ok lf run la (t + 1) = true ↔ ¬ cP_sl lf run la t = 0) ∧ (¬ cP_sl lf run la t = 0 → cP_sl lf run la (t + 1) = cP_sl lf run la t - 1) := by
  unfold ck_ok at h ⊢
  unfold cP_sl
  by_cases h0 : la = 0
  · rw [if_pos h0] at h ⊢
    rw [if_pos h0, if_pos h0]
    simp only [decide_eq_true_eq] at h ⊢
    omega
  · rw [if_neg h0] at h ⊢
    rw [if_neg h0, if_neg h0]
    simp only [decide_eq_true_eq] at h ⊢
    omega
theorem cP_w {lf run t : Nat} (hr : 1 ≤ run) : (ck_ok lf run (t + 1) (t + 1) = true ↔ ¬ run - 1 = 0) ∧ cP_sl lf run (t + 1) (t + 1) = run - 1 - 1 := by
  unfold ck_ok cP_sl
  rw [if_neg (by omega), if_neg (by omega)]
  simp only [decide_eq_true_eq]
  omega
/-- a state of the reference's plan and one of the class's -/
def cP_c (lf run : Nat → Nat) (pk days t s now : Nat) : Prop := ck_vs pk s t ∧ now < 16 ^ pk ∧ ∀ i, i < pk → ck_ok (lf i) (run i) (s / 11 ^ i % 11) t = true ∧ cp_d now i = min (cP_sl (lf i) (run i) (s / 11 ^ i % 11) t) (days - t)
theorem cP_nx {lf run ws : Nat → Nat} {pk days t s now : Nat} (hpk : pk ≤ 4) (hd : days ≤ 10) (ht : t < days) (hws : ∀ i, i < pk → ws i = run i - 1 ∧ 1 ≤ run i ∧ run i ≤ 31) (hc : cP_c lf run pk days t s now) (w : Nat) :
    (cp_sb ws (days - t - 1) now w pk = none ∧ ¬ ck_ag lf run (ck_wd s w t pk) (t + 1) pk 0 = true) ∨ ∃ v, cp_sb ws (days - t - 1) now w pk = some v ∧ cP_c lf run pk days (t + 1) (ck_wd s w t pk) v := by
  obtain ⟨c1, c2, c3⟩ := hc
  have vs2 := ck_vs_wd w hpk (by omega) c1
  have dg : ∀ i, i < pk → ck_wd s w t pk / 11 ^ i % 11 = if w / 2 ^ i % 2 = 1 then t + 1 else s / 11 ^ i % 11 := by
    intro i hi
    rw [ck_wd_d s w t (by omega) pk hpk c1.2 i (by omega)]
    by_cases hb : w / 2 ^ i % 2 = 1
    · rw [if_pos hb, if_pos ⟨hi, hb⟩]
    · rw [if_neg hb, if_neg (fun z => hb z.2)]
  have one : ∀ i, i < pk → (ck_ok (lf i) (run i) (ck_wd s w t pk / 11 ^ i % 11) (t + 1) = true ↔ ¬ cp_sl ws now w i = 0) ∧ (¬ cp_sl ws now w i = 0 → min (cp_sl ws now w i - 1) (days - t - 1) = min (cP_sl (lf i) (run i) (ck_wd s w t pk / 11 ^ i % 11) (t + 1)) (days - (t + 1))) := by
    intro i hi
    obtain ⟨k1, k2⟩ := c3 i hi
    obtain ⟨w1, w2, w3⟩ := hws i hi
    have hla := c1.2 i hi
    rw [dg i hi]
    unfold cp_sl
    by_cases hb : w / 2 ^ i % 2 = 1
    · rw [if_pos hb, if_pos hb, w1]
      obtain ⟨q1, q2⟩ := cP_w (lf := lf i) (run := run i) (t := t) w2
      exact ⟨q1, fun _ => by rw [q2]; omega⟩
    · rw [if_neg hb, if_neg hb, k2]
      obtain ⟨q1, q2⟩ := cP_u hla k1
      generalize cP_sl (lf i) (run i) (s / 11 ^ i % 11) t = z at q1 q2 ⊢
      refine ⟨q1.trans ⟨fun h => by omega, fun h => by omega⟩, fun h => ?_⟩
      rw [q2 (by omega)]
      omega
  have key : ∀ n, n ≤ pk → (cp_sb ws (days - t - 1) now w n = none ∧ ∃ i, i < n ∧ ¬ ck_ok (lf i) (run i) (ck_wd s w t pk / 11 ^ i % 11) (t + 1) = true) ∨ ∃ v, cp_sb ws (days - t - 1) now w n = some v ∧ v < 16 ^ n ∧ ∀ i, i < n → ck_ok (lf i) (run i) (ck_wd s w t pk / 11 ^ i % 11) (t + 1) = true ∧ cp_d v i = min (cP_sl (lf i) (run i) (ck_wd s w t pk / 11 ^ i % 11) (t + 1)) (days - (t + 1)) := by
    intro n
    induction n with
    | zero => intro _; exact Or.inr ⟨0, rfl, Nat.one_pos, fun i hi => absurd hi (Nat.not_lt_zero _)⟩
    | succ n ih =>
      intro hn
      rw [cp_sb]
      rcases ih (by omega) with ⟨h1, i, h2, h3⟩ | ⟨v, h1, h2, h3⟩
      · rw [h1]
        exact Or.inl ⟨rfl, i, by omega, h3⟩
      · rw [h1]
        try dsimp only
        obtain ⟨o1, o2⟩ := one n (by omega)
        by_cases hz : cp_sl ws now w n = 0
        · rw [if_pos hz]
          exact Or.inl ⟨rfl, n, by omega, fun z => o1.mp z hz⟩
        · rw [if_neg hz]
          have o3 := o2 hz
          have hm : min (cp_sl ws now w n - 1) (days - t - 1) < 16 := by omega
          obtain ⟨a1, a2⟩ := cp_d_add (v := v) (m := min (cp_sl ws now w n - 1) (days - t - 1)) (i := n) h2 hm
          refine Or.inr ⟨_, rfl, ?_, fun i hi => ?_⟩
          · rw [Nat.pow_succ]
            have := Nat.mul_le_mul_right (16 ^ n) (show min (cp_sl ws now w n - 1) (days - t - 1) ≤ 15 by omega)
            omega
          · by_cases e : i = n
            · subst e
              exact ⟨o1.mpr hz, by rw [a2, o3]⟩
            · obtain ⟨b1, b2⟩ := h3 i (by omega)
              exact ⟨b1, by rw [a1 i (by omega), b2]⟩
  rcases key pk (Nat.le_refl _) with ⟨h1, i, h2, h3⟩ | ⟨v, h1, h2, h3⟩
  · exact Or.inl ⟨h1, fun z => h3 ((cP_ag pk 0).mp z i (Nat.zero_le _) (by omega))⟩
  · exact Or.inr ⟨v, h1, vs2, h2, h3⟩
theorem cP_fm {nx : Nat → Option Nat} {g f : Nat → Nat} {many B : Nat} (hm : many ≤ 2) (hB : B ≤ 60) (h0 : ∀ w, many < ck_pc w → nx w = none)
    (h1 : ∀ w, ¬ many < ck_pc w → (nx w = none ∧ f w = 1000) ∨ ∃ v, nx w = some v ∧ ((g v = f w ∧ f w ≤ B) ∨ (g v = 63 ∧ f w = 1000))) :
    ∀ W, (cp_fm nx g W = ck_fm f many W ∧ ck_fm f many W ≤ B + 2) ∨ (cp_fm nx g W = 63 ∧ ck_fm f many W = 1000) := by
  intro W
  induction W with
  | zero => exact Or.inr ⟨rfl, rfl⟩
  | succ w ih =>
    rw [cp_fm, ck_fm]
    by_cases hb : many < ck_pc w
    · rw [if_pos hb, h0 w hb]
      exact ih
    · rw [if_neg hb]
      rcases h1 w hb with ⟨a1, a2⟩ | ⟨v, a1, ⟨a2, a3⟩ | ⟨a2, a3⟩⟩
      · rw [a1, a2]
        try dsimp only
        rw [if_neg (by have := ck_fm_le f many w; omega)]
        exact ih
      · rw [a1]
        try dsimp only
        rw [a2]
        rcases ih with ⟨i1, i2⟩ | ⟨i1, i2⟩
        · rw [i1]
          left
          split <;> omega
        · rw [i1, i2, if_pos (by omega)]
          left
          omega
      · rw [a1]
        try dsimp only
        rw [a2, a3]
        rcases ih with ⟨i1, i2⟩ | ⟨i1, i2⟩
        · rw [i1, if_neg (by omega)]
          left
          omega
        · rw [i1, i2, if_neg (by omega)]
          right
          omega
theorem cP_fs {nx : Nat → Option Nat} {g f : Nat → Nat} {many B v : Nat} (hv : v ≤ 62) (h0 : ∀ w, many < ck_pc w → nx w = none)
    (h1 : ∀ w, ¬ many < ck_pc w → (nx w = none ∧ f w = 1000) ∨ ∃ v, nx w = some v ∧ ((g v = f w ∧ f w ≤ B) ∨ (g v = 63 ∧ f w = 1000))) :
    ∀ m w, (∃ u, w ≤ u ∧ u < w + m ∧ ¬ many < ck_pc u ∧ ck_pc u + f u = v) → cp_fs nx g v m w = ck_fd f many v m w := by
  intro m
  induction m with
  | zero => rintro w ⟨u, h1, h2, -⟩; omega
  | succ m ih =>
    rintro w ⟨u, u1, u2, u3, u4⟩
    rw [cp_fs, ck_fd]
    have next : ∀ (hw : ¬ u = w), cp_fs nx g v m (w + 1) = ck_fd f many v m (w + 1) := fun hw => ih (w + 1) ⟨u, by omega, by omega, u3, u4⟩
    by_cases hb : many < ck_pc w
    · rw [if_pos hb, h0 w hb]
      exact next (fun e => u3 (e ▸ hb))
    · rw [if_neg hb]
      rcases h1 w hb with ⟨a1, a2⟩ | ⟨q, a1, ⟨a2, a3⟩ | ⟨a2, a3⟩⟩
      · rw [a1, a2]
        try dsimp only
        rw [if_neg (by omega)]
        exact next (fun e => by rw [e, a2] at u4; omega)
      · rw [a1]
        try dsimp only
        rw [a2]
        by_cases e : ck_pc w + f w = v
        · rw [if_pos e, if_pos e]
        · rw [if_neg e, if_neg e]
          exact next (fun z => e (z ▸ u4))
      · rw [a1]
        try dsimp only
        rw [a2, a3, if_neg (by omega), if_neg (by omega)]
        exact next (fun e => by rw [e, a3] at u4; omega)
/-- one time's choices, both ways -/
theorem cP_ch {lf run ws : Nat → Nat} {pk days t s now many n : Nat} (hpk : pk ≤ 4) (hd : days ≤ 10) (htn : t + (n + 1) = days) (hws : ∀ i, i < pk → ws i = run i - 1 ∧ 1 ≤ run i ∧ run i ≤ 31) (hc : cP_c lf run pk days t s now)
    (ih : ∀ t s now, t + n = days → cP_c lf run pk days t s now → (cp_fw ws pk many n now = ck_fw lf run pk many n t s ∧ ck_fw lf run pk many n t s ≤ 2 * n) ∨ (cp_fw ws pk many n now = 63 ∧ ck_fw lf run pk many n t s = 1000)) :
    (∀ w, many < ck_pc w → cp_nx ws pk many n now w = none) ∧ ∀ w, ¬ many < ck_pc w → (cp_nx ws pk many n now w = none ∧ ck_fw lf run pk many n (t + 1) (ck_wd s w t pk) = 1000) ∨
      ∃ v, cp_nx ws pk many n now w = some v ∧ ((cp_fw ws pk many n v = ck_fw lf run pk many n (t + 1) (ck_wd s w t pk) ∧ ck_fw lf run pk many n (t + 1) (ck_wd s w t pk) ≤ 2 * n) ∨ (cp_fw ws pk many n v = 63 ∧ ck_fw lf run pk many n (t + 1) (ck_wd s w t pk) = 1000)) := by
  refine ⟨fun w hb => by unfold cp_nx; rw [if_pos hb], fun w hb => ?_⟩
  have hx := cP_nx (ws := ws) hpk hd (show t < days by omega) hws hc w
  rw [show days - t - 1 = n by omega] at hx
  unfold cp_nx
  rw [if_neg hb]
  rcases hx with ⟨x1, x2⟩ | ⟨v, x1, x2⟩
  · refine Or.inl ⟨x1, ?_⟩
    cases n with
    | zero => rw [ck_fw, if_neg x2]
    | succ n => rw [ck_fw, if_neg x2]
  · exact Or.inr ⟨v, x1, ih (t + 1) _ v (by omega) x2⟩
theorem cP_fw {lf run ws : Nat → Nat} {pk days many : Nat} (hpk : pk ≤ 4) (hd : days ≤ 10) (hm : many ≤ 2) (hws : ∀ i, i < pk → ws i = run i - 1 ∧ 1 ≤ run i ∧ run i ≤ 31) :
    ∀ n t s now, t + n = days → cP_c lf run pk days t s now → (cp_fw ws pk many n now = ck_fw lf run pk many n t s ∧ ck_fw lf run pk many n t s ≤ 2 * n) ∨ (cp_fw ws pk many n now = 63 ∧ ck_fw lf run pk many n t s = 1000) := by
  intro n
  induction n with
  | zero =>
    intro t s now ht hc
    rw [cp_fw, ck_fw, if_pos ((cP_ag pk 0).mpr (fun j _ hj => (hc.2.2 j (by omega)).1))]
    exact Or.inl ⟨rfl, Nat.le_refl _⟩
  | succ n ih =>
    intro t s now ht hc
    rw [cp_fw, ck_fw, if_pos ((cP_ag pk 0).mpr (fun j _ hj => (hc.2.2 j (by omega)).1))]
    obtain ⟨k0, k1⟩ := cP_ch (many := many) hpk hd ht hws hc ih
    have := cP_fm (B := 2 * n) hm (by omega) k0 k1 (2 ^ pk)
    rw [show 2 * (n + 1) = 2 * n + 2 by omega]
    exact this
/-- the states and the choices, time by time -/
theorem cP_wn {lf run ws : Nat → Nat} {pk days many st : Nat} (hpk : pk ≤ 4) (hd : days ≤ 10) (hm : many ≤ 2) (hws : ∀ i, i < pk → ws i = run i - 1 ∧ 1 ≤ run i ∧ run i ≤ 31) (hc : cP_c lf run pk days 0 0 st) (hf : ck_fw lf run pk many days 0 0 < 1000) :
    ∀ k, k ≤ days → cP_c lf run pk days k (ck_sq lf run pk many days k) (cp_wn ws pk many days st k) ∧ (k < days → cp_fb ws pk many (days - k - 1) (cp_wn ws pk many days st k) = ck_wb lf run pk many days k (ck_sq lf run pk many days k)) := by
  have wb : ∀ k, k < days → cP_c lf run pk days k (ck_sq lf run pk many days k) (cp_wn ws pk many days st k) → cp_fb ws pk many (days - k - 1) (cp_wn ws pk many days st k) = ck_wb lf run pk many days k (ck_sq lf run pk many days k) := by
    intro k hk hck
    obtain ⟨-, h2⟩ := ck_sq_ok hpk hd hf k (by omega)
    obtain ⟨e1, -, -⟩ := ck_wb_ok hk h2
    obtain ⟨n, hn⟩ : ∃ n, days - k = n + 1 := ⟨days - k - 1, by omega⟩
    have hk2 := cP_fw hpk hd hm hws (n + 1) k _ _ (by omega) hck
    obtain ⟨k0, k1⟩ := cP_ch (many := many) (n := n) hpk hd (by omega) hws hck (cP_fw hpk hd hm hws n)
    unfold cp_fb ck_wb
    rw [hn] at e1 h2 ⊢
    rw [Nat.add_sub_cancel] at e1 ⊢
    rcases hk2 with ⟨z1, z2⟩ | ⟨z1, z2⟩
    · rw [z1]
      exact cP_fs (B := 2 * n) (by omega) k0 k1 (2 ^ pk) 0 e1
    · omega
  intro k
  induction k with
  | zero => intro _; exact ⟨hc, fun h => wb 0 h hc⟩
  | succ k ih =>
    intro hk
    obtain ⟨i1, i2⟩ := ih (by omega)
    have i2 := i2 (by omega)
    have hc2 : cP_c lf run pk days (k + 1) (ck_sq lf run pk many days (k + 1)) (cp_wn ws pk many days st (k + 1)) := by
      rw [ck_sq, cp_wn, i2]
      obtain ⟨-, h2⟩ := ck_sq_ok hpk hd hf k (by omega)
      obtain ⟨-, -, h3⟩ := ck_wb_ok (show k < days by omega) h2
      obtain ⟨u1, u2, u3, u4⟩ := (ck_wb_ok (show k < days by omega) h2).1
      have hb := ck_fd_in _ many _ (2 ^ pk) 0 (ck_wb_ok (show k < days by omega) h2).1
      have hb3 : ¬ many < ck_pc (ck_wb lf run pk many days k (ck_sq lf run pk many days k)) := hb.2.2.1
      generalize ck_wb lf run pk many days k (ck_sq lf run pk many days k) = w at h3 hb3 ⊢
      unfold cp_nx
      rw [if_neg hb3]
      rcases cP_nx (ws := ws) hpk hd (show k < days by omega) hws i1 w with ⟨x1, x2⟩ | ⟨v, x1, x2⟩
      · exfalso
        have h4 : ck_fw lf run pk many (days - (k + 1)) (k + 1) (ck_wd (ck_sq lf run pk many days k) w k pk) = 1000 := by
          cases hq : days - (k + 1) with
          | zero => rw [ck_fw, if_neg x2]
          | succ n => rw [ck_fw, if_neg x2]
        omega
      · rw [x1]
        exact x2
    exact ⟨hc2, fun h => wb (k + 1) h hc2⟩
theorem cP_ct_lt {s : Nat} : ∀ c p, p < c → s / 2 ^ p % 2 = 1 → ck_ct s p < ck_ct s c := by
  intro c
  induction c with
  | zero => intro p hp; exact absurd hp (Nat.not_lt_zero _)
  | succ c ih =>
    intro p hp hb
    rw [ck_ct]
    by_cases e : p = c
    · subst e; omega
    · have := ih p (by omega) hb
      omega
theorem cP_ct_on {s : Nat} : ∀ c i, i < ck_ct s c → ∃ p, p < c ∧ s / 2 ^ p % 2 = 1 ∧ ck_ct s p = i := by
  intro c
  induction c with
  | zero => intro i hi; exact absurd hi (Nat.not_lt_zero _)
  | succ c ih =>
    intro i hi
    rw [ck_ct] at hi
    by_cases h : i < ck_ct s c
    · obtain ⟨p, h1, h2, h3⟩ := ih i h
      exact ⟨p, by omega, h2, h3⟩
    · exact ⟨c, by omega, by omega, by omega⟩
theorem cP_pcl {P0 : Nat → Int32} {s : Nat} : ∀ c p, p < c → s / 2 ^ p % 2 = 1 → ck_pcl P0 s c (ck_ct s p) = nI p := by
  intro c
  induction c with
  | zero => intro p hp; exact absurd hp (Nat.not_lt_zero _)
  | succ c ih =>
    intro p hp hb
    rw [ck_pcl]
    by_cases e : p = c
    · subst e
      rw [if_pos hb, pk_us]
    · have h1 := cP_ct_lt c p (by omega) hb
      split
      · rw [pk_un (by omega)]; exact ih p (by omega) hb
      · exact ih p (by omega) hb
theorem cP_wsl {WS : Nat → Int32} {run : Nat → Nat} {s : Nat} : ∀ c p, p < c → s / 2 ^ p % 2 = 1 → cp_wsl WS run s c (ck_ct s p) = nI (run p - 1) := by
  intro c
  induction c with
  | zero => intro p hp; exact absurd hp (Nat.not_lt_zero _)
  | succ c ih =>
    intro p hp hb
    rw [cp_wsl]
    by_cases e : p = c
    · subst e
      rw [if_pos hb, pk_us]
    · have h1 := cP_ct_lt c p (by omega) hb
      split
      · rw [pk_un (by omega)]; exact ih p (by omega) hb
      · exact ih p (by omega) hb
theorem cP_stl {lf : Nat → Nat} {days s : Nat} (hd : days ≤ 10) : ∀ c, (cp_stl lf days s c = none ∧ ∃ p, p < c ∧ s / 2 ^ p % 2 = 1 ∧ lf p = 0) ∨ ∃ v, cp_stl lf days s c = some v ∧ v < 16 ^ ck_ct s c ∧ ∀ p, p < c → s / 2 ^ p % 2 = 1 → ¬ lf p = 0 ∧ cp_d v (ck_ct s p) = min ((lf p - 1) / 1440) days := by
  intro c
  induction c with
  | zero => exact Or.inr ⟨0, rfl, Nat.one_pos, fun p hp => absurd hp (Nat.not_lt_zero _)⟩
  | succ c ih =>
    rw [cp_stl, ck_ct]
    by_cases hb : s / 2 ^ c % 2 = 1
    · rw [if_pos hb, hb]
      unfold cp_js
      by_cases h0 : lf c = 0
      · rw [if_pos h0]
        exact Or.inl ⟨rfl, c, by omega, hb, h0⟩
      · rw [if_neg h0]
        rcases ih with ⟨h1, p, h2, h3, h4⟩ | ⟨v, h1, h2, h3⟩
        · rw [h1]
          exact Or.inl ⟨rfl, p, by omega, h3, h4⟩
        · rw [h1]
          try dsimp only
          have hm : min ((lf c - 1) / 1440) days < 16 := by omega
          obtain ⟨a1, a2⟩ := cp_d_add (v := v) (m := min ((lf c - 1) / 1440) days) (i := ck_ct s c) h2 hm
          refine Or.inr ⟨_, rfl, ?_, fun p hp hbp => ?_⟩
          · rw [Nat.pow_succ]
            have := Nat.mul_le_mul_right (16 ^ ck_ct s c) (show min ((lf c - 1) / 1440) days ≤ 15 by omega)
            omega
          · by_cases e : p = c
            · subst e
              exact ⟨h0, a2⟩
            · obtain ⟨b1, b2⟩ := h3 p (by omega) hbp
              exact ⟨b1, by rw [a1 _ (cP_ct_lt c p (by omega) hbp)]; exact b2⟩
    · rw [if_neg hb, show s / 2 ^ c % 2 = 0 by omega, Nat.add_zero]
      rcases ih with ⟨h1, p, h2, h3, h4⟩ | ⟨v, h1, h2, h3⟩
      · exact Or.inl ⟨h1, p, by omega, h3, h4⟩
      · refine Or.inr ⟨v, h1, h2, fun p hp hbp => h3 p ?_ hbp⟩
        by_cases e : p = c
        · subst e; exact absurd hbp hb
        · omega
theorem cP_sh0 : ∀ p, p < 8 → nI 0 <<< (nI p &&& 31) = (0 : Int32) := by decide
theorem cP_sh1 : ∀ p, p < 8 → nI 1 <<< (nI p &&& 31) = (1 : Int32) <<< (nI p &&& 31) := by decide
theorem cP_co {A : Nat → Nat → Int32} {NU : Nat → Int32} {w pk : Nat} (h : ∀ i, i < pk → ∃ p, p < 8 ∧ NU i = nI p ∧ A 128 i = nI p) : ∀ n, n ≤ pk → cp_nm NU w n = ck_co A w n := by
  intro n
  induction n with
  | zero => intro _; rfl
  | succ n ih =>
    intro hn
    obtain ⟨p, h1, h2, h3⟩ := h n (by omega)
    rw [cp_nm, ck_co, ih (by omega), h2, h3]
    by_cases hb : w / 2 ^ n % 2 = 1
    · rw [if_pos hb, hb, cP_sh1 p h1]
    · rw [if_neg hb, show w / 2 ^ n % 2 = 0 by omega, cP_sh0 p h1]
/-- what plan answers, both ways -/
theorem cx_plv_eq {A : Nat → Nat → Int32} {NU WS : Nat → Int32} {lf run : Nat → Nat} {cl s days many what : Nat} (hcl : cl ≤ 8) (hs : s < 2 ^ cl) (hp : ck_pc s ≤ 4) (hd : 1 ≤ days ∧ days ≤ 10) (hm : 1 ≤ many ∧ many ≤ 2) (hw : what ≤ days)
    (hlr : ∀ i, i < cl → A 108 i = nI (lf i) ∧ lf i ≤ 44640 ∧ A 102 (16 * i + 0) = nI (run i) ∧ 1 ≤ run i ∧ run i ≤ 31) : cx_plv NU WS run lf s days many what = ck_plv A cl s days many what := by
  have s256 : s < 256 := Nat.lt_of_lt_of_le hs (Nat.le_trans (Nat.pow_le_pow_right (n := 2) (by decide) hcl) (by decide))
  have ct8 : ck_ct s 8 = ck_pc s := ck_ct_pc 8 (Nat.le_refl _) s s256
  have ctc : ck_ct s cl = ck_pc s := ck_ct_pc cl hcl s hs
  have bit : ∀ p, p < 8 → s / 2 ^ p % 2 = 1 → p < cl := by
    intro p h1 h2
    by_cases h : p < cl
    · exact h
    · have := cp_bt0 s s256 cl hcl hs p h1 (by omega)
      omega
  obtain ⟨PC, hPC⟩ : ∃ PC, PC = ck_pcl (A 128) s cl := ⟨_, rfl⟩
  obtain ⟨lf2, hlf2⟩ : ∃ f, f = ck_lf A PC := ⟨_, rfl⟩
  obtain ⟨run2, hrun2⟩ : ∃ f, f = ck_rn A PC := ⟨_, rfl⟩
  have on : ∀ i, i < ck_pc s → ∃ p, p < 8 ∧ p < cl ∧ s / 2 ^ p % 2 = 1 ∧ ck_ct s p = i ∧ PC i = nI p ∧ ck_pcl NU s 8 i = nI p ∧ lf2 i = lf p ∧ run2 i = run p := by
    intro i hi
    obtain ⟨p, h1, h2, h3⟩ := cP_ct_on 8 i (by rw [ct8]; exact hi)
    have h4 := bit p h1 h2
    have e1 : PC i = nI p := by rw [hPC, ← h3]; exact cP_pcl cl p h4 h2
    obtain ⟨l1, l2, l3, l4, l5⟩ := hlr p h4
    refine ⟨p, h1, h4, h2, h3, e1, by rw [← h3]; exact cP_pcl 8 p h1 h2, ?_, ?_⟩
    · rw [hlf2]
      unfold ck_lf
      rw [e1, nI_clamp (by omega), l1, nI_clamp (by omega)]
    · rw [hrun2]
      unfold ck_rn
      rw [e1, nI_clamp (by omega), l3, nI_clamp (by omega)]
  have hws : ∀ i, i < ck_pc s → cx_ws WS run s i = run2 i - 1 ∧ 1 ≤ run2 i ∧ run2 i ≤ 31 := by
    intro i hi
    obtain ⟨p, h1, h2, h3, h4, h5, h6, h7, h8⟩ := on i hi
    obtain ⟨l1, l2, l3, l4, l5⟩ := hlr p h2
    refine ⟨?_, by omega, by omega⟩
    unfold cx_ws
    rw [← h4, cP_wsl 8 p h1 h3, nI_clamp (by omega), h4, h8]
  have vs0 : ck_vs (ck_pc s) 0 0 := ⟨Nat.pos_of_ne_zero (fun e => by have := Nat.pow_pos (n := ck_pc s) (show 0 < 11 by decide); omega), fun j _ => by rw [Nat.zero_div]; exact Nat.le_refl 0⟩
  have ok0 : ∀ i, ck_ok (lf2 i) (run2 i) (0 / 11 ^ i % 11) 0 = true ↔ ¬ lf2 i = 0 := by
    intro i
    rw [Nat.zero_div]
    unfold ck_ok
    rw [if_pos rfl]
    simp only [decide_eq_true_eq]
    omega
  unfold ck_plv
  try dsimp only
  rw [← hPC, ← hlf2, ← hrun2]
  rcases cP_stl (lf := lf) (days := days) (s := s) hd.2 8 with ⟨h1, p, h2, h3, h4⟩ | ⟨st, h1, h2, h3⟩
  · rw [cx_plv_n h1]
    have hct := cP_ct_lt 8 p h2 h3
    rw [ct8] at hct
    have hag : ¬ ck_ag lf2 run2 0 0 (ck_pc s) 0 = true := by
      intro z
      have z1 := (cP_ag (ck_pc s) 0).mp z (ck_ct s p) (Nat.zero_le _) (by omega)
      obtain ⟨p2, a1, a2, a3, a4, a5, a6, a7, a8⟩ := on _ hct
      have a9 : p2 = p := by
        rcases Nat.lt_trichotomy p2 p with c | c | c
        · have := cP_ct_lt p p2 c a3; omega
        · exact c
        · have := cP_ct_lt p2 p c h3; omega
      rw [(ok0 _), a7, a9] at z1
      exact z1 h4
    have hf : ck_fw lf2 run2 (ck_pc s) many days 0 0 = 1000 := by
      obtain ⟨n, rfl⟩ : ∃ n, days = n + 1 := ⟨days - 1, by omega⟩
      rw [ck_fw, if_neg hag]
    rw [hf, if_neg (by omega)]
  · have hc : cP_c lf2 run2 (ck_pc s) days 0 0 st := by
      refine ⟨vs0, by rw [← ct8]; exact h2, fun i hi => ?_⟩
      obtain ⟨p2, a1, a2, a3, a4, a5, a6, a7, a8⟩ := on i hi
      obtain ⟨b1, b2⟩ := h3 p2 a1 a3
      rw [a4] at b2
      refine ⟨(ok0 i).mpr (by rw [a7]; exact b1), ?_⟩
      rw [b2, Nat.zero_div]
      unfold cP_sl
      rw [if_pos rfl, a7]
      omega
    have hk := cP_fw hp hd.2 hm.2 hws days 0 0 st (by omega) hc
    by_cases hf : ck_fw lf2 run2 (ck_pc s) many days 0 0 < 1000
    · rw [if_pos hf]
      rcases hk with ⟨k1, k2⟩ | ⟨k1, k2⟩
      · unfold cx_plv
        rw [h1, ct8]
        try dsimp only
        rw [k1, if_pos (by omega)]
        cases what with
        | zero => rw [if_pos rfl]
        | succ k =>
          try dsimp only
          rw [if_neg (by omega), Nat.add_sub_cancel, (cP_wn hp hd.2 hm.2 hws hc hf k (by omega)).2 (by omega)]
          refine cP_co (pk := ck_pc s) (fun i hi => ?_) _ (Nat.le_refl _)
          obtain ⟨p2, a1, a2, a3, a4, a5, a6, a7, a8⟩ := on i hi
          exact ⟨p2, a1, a6, by rw [va_us]; exact a5⟩
      · omega
    · rw [if_neg hf]
      rcases hk with ⟨k1, k2⟩ | ⟨k1, k2⟩
      · omega
      · refine cx_plv_b h1 ?_
        rw [ct8, k1]
        omega

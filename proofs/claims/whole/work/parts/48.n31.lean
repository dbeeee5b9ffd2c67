/-- the plan's clocks -/
def ck_ct (s : Nat) : Nat → Nat
  | 0 => 0
  | c + 1 => ck_ct s c + s / 2 ^ c % 2
def ck_pcl (P0 : Nat → Int32) (s : Nat) : Nat → (Nat → Int32)
  | 0 => P0
  | c + 1 => if s / 2 ^ c % 2 = 1 then upd (ck_pcl P0 s c) (ck_ct s c) (nI c) else ck_pcl P0 s c
theorem ck_ct_pc : ∀ cl, cl ≤ 8 → ∀ s, s < 2 ^ cl → ck_ct s cl = ck_pc s := by decide +kernel
theorem ck_ct_lt : ∀ s, s < 256 → ∀ c, c < 8 → s / 2 ^ c % 2 = 1 → ck_ct s c < ck_pc s := by decide +kernel
theorem ck_pcl_in (P0 : Nat → Int32) (s : Nat) : ∀ c i, i < ck_ct s c → ∃ p, p < c ∧ ck_pcl P0 s c i = nI p
  | 0, i, h => absurd h (Nat.not_lt_zero i)
  | c + 1, i, h => by
    unfold ck_ct at h
    unfold ck_pcl
    by_cases hb : s / 2 ^ c % 2 = 1
    · rw [if_pos hb]
      by_cases e : i = ck_ct s c
      · exact ⟨c, by omega, by rw [e]; exact pk_us⟩
      · obtain ⟨p, h1, h2⟩ := ck_pcl_in P0 s c i (by omega)
        exact ⟨p, by omega, by rw [pk_un e]; exact h2⟩
    · rw [if_neg hb]
      obtain ⟨p, h1, h2⟩ := ck_pcl_in P0 s c i (by omega)
      exact ⟨p, by omega, h2⟩
def ck_lf (A : Nat → Nat → Int32) (PC : Nat → Int32) (i : Nat) : Nat := (A 108 (PC i).toNatClampNeg).toNatClampNeg
def ck_rn (A : Nat → Nat → Int32) (PC : Nat → Int32) (i : Nat) : Nat := (A 102 (16 * (PC i).toNatClampNeg + 0)).toNatClampNeg
/-- what the plan needs of the clocks -/
def ck_lr (A : Nat → Nat → Int32) (cl : Nat) : Prop := ∀ c, c < cl → ∃ a b : Nat, A 108 c = nI a ∧ a ≤ 44640 ∧ A 102 (16 * c + 0) = nI b ∧ b ≤ 31
theorem ck_pl_of {A : Nat → Nat → Int32} {cl s : Nat} (hcl : cl ≤ 8) (h : ck_lr A cl) (hs : s < 2 ^ cl) : ck_pl (va_up A 128 (ck_pcl (A 128) s cl)) (ck_pc s) (ck_lf A (ck_pcl (A 128) s cl)) (ck_rn A (ck_pcl (A 128) s cl)) := by
  intro i hi
  rw [← ck_ct_pc cl hcl s hs] at hi
  obtain ⟨p, h1, h2⟩ := ck_pcl_in (A 128) s cl i hi
  obtain ⟨a, b, h3, h4, h5, h6⟩ := h p h1
  have e1 : ck_lf A (ck_pcl (A 128) s cl) i = a := by unfold ck_lf; rw [h2, nI_clamp (by omega), h3, nI_clamp (by omega)]
  have e2 : ck_rn A (ck_pcl (A 128) s cl) i = b := by unfold ck_rn; rw [h2, nI_clamp (by omega), h5, nI_clamp (by omega)]
  rw [e1, e2]
  exact ⟨p, by omega, h2, h3, h4, h5, h6⟩
def ck_fd (f : Nat → Nat) (many v : Nat) : Nat → Nat → Nat
  | 0, w => w
  | n + 1, w => if many < ck_pc w then ck_fd f many v n (w + 1) else if ck_pc w + f w = v then w else ck_fd f many v n (w + 1)
theorem ck_fm_at (f : Nat → Nat) (many : Nat) : ∀ W, ck_fm f many W < 1000 → ∃ w, w < W ∧ ¬ many < ck_pc w ∧ ck_pc w + f w = ck_fm f many W
  | 0, h => absurd h (by unfold ck_fm; omega)
  | W + 1, h => by
    unfold ck_fm at h ⊢
    by_cases hb : many < ck_pc W
    · rw [if_pos hb] at h ⊢
      obtain ⟨w, h1, h2⟩ := ck_fm_at f many W h
      exact ⟨w, by omega, h2⟩
    · rw [if_neg hb] at h ⊢
      by_cases hl : ck_pc W + f W < ck_fm f many W
      · rw [if_pos hl] at h ⊢
        exact ⟨W, by omega, hb, rfl⟩
      · rw [if_neg hl] at h ⊢
        obtain ⟨w, h1, h2⟩ := ck_fm_at f many W h
        exact ⟨w, by omega, h2⟩
theorem ck_fd_in (f : Nat → Nat) (many v : Nat) : ∀ n w, (∃ u, w ≤ u ∧ u < w + n ∧ ¬ many < ck_pc u ∧ ck_pc u + f u = v) → w ≤ ck_fd f many v n w ∧ ck_fd f many v n w < w + n ∧ ¬ many < ck_pc (ck_fd f many v n w) ∧ ck_pc (ck_fd f many v n w) + f (ck_fd f many v n w) = v
  | 0, w, h => by obtain ⟨u, h1, h2, -⟩ := h; omega
  | n + 1, w, h => by
    obtain ⟨u, h1, h2, h3, h4⟩ := h
    unfold ck_fd
    by_cases hb : many < ck_pc w
    · rw [if_pos hb]
      have hu : u ≠ w := fun e => h3 (e ▸ hb)
      have := ck_fd_in f many v n (w + 1) ⟨u, by omega, by omega, h3, h4⟩
      exact ⟨by omega, by omega, this.2.2⟩
    · rw [if_neg hb]
      by_cases he : ck_pc w + f w = v
      · rw [if_pos he]
        exact ⟨Nat.le_refl _, by omega, hb, he⟩
      · rw [if_neg he]
        have hu : u ≠ w := fun e => he (e ▸ h4)
        have := ck_fd_in f many v n (w + 1) ⟨u, by omega, by omega, h3, h4⟩
        exact ⟨by omega, by omega, this.2.2⟩
/-- who is wound at the k-th time, in state s -/
def ck_wb (lf run : Nat → Nat) (pk many days k s : Nat) : Nat := ck_fd (fun w => ck_fw lf run pk many (days - k - 1) (k + 1) (ck_wd s w k pk)) many (ck_fw lf run pk many (days - k) k s) (2 ^ pk) 0
def ck_sq (lf run : Nat → Nat) (pk many days : Nat) : Nat → Nat
  | 0 => 0
  | k + 1 => ck_wd (ck_sq lf run pk many days k) (ck_wb lf run pk many days k (ck_sq lf run pk many days k)) k pk
theorem ck_wb_ok {lf run : Nat → Nat} {pk many days k s : Nat} (hk : k < days) (h : ck_fw lf run pk many (days - k) k s < 1000) :
    (∃ u, 0 ≤ u ∧ u < 0 + 2 ^ pk ∧ ¬ many < ck_pc u ∧ ck_pc u + ck_fw lf run pk many (days - k - 1) (k + 1) (ck_wd s u k pk) = ck_fw lf run pk many (days - k) k s) ∧
    ck_wb lf run pk many days k s < 2 ^ pk ∧ ck_fw lf run pk many (days - (k + 1)) (k + 1) (ck_wd s (ck_wb lf run pk many days k s) k pk) < 1000 := by
  have e : ∃ u, 0 ≤ u ∧ u < 0 + 2 ^ pk ∧ ¬ many < ck_pc u ∧ ck_pc u + ck_fw lf run pk many (days - k - 1) (k + 1) (ck_wd s u k pk) = ck_fw lf run pk many (days - k) k s := by
    obtain ⟨n, hn⟩ : ∃ n, days - k = n + 1 := ⟨days - k - 1, by omega⟩
    rw [hn] at h ⊢
    rw [Nat.add_sub_cancel]
    have h' := h
    rw [ck_fw] at h' ⊢
    split at h'
    · rename_i hg
      rw [if_pos hg]
      obtain ⟨w, h1, h2⟩ := ck_fm_at _ many _ h'
      exact ⟨w, Nat.zero_le _, by omega, h2⟩
    · omega
  refine ⟨e, ?_⟩
  have := ck_fd_in _ many _ (2 ^ pk) 0 e
  have e2 : days - (k + 1) = days - k - 1 := by omega
  rw [e2]
  refine ⟨by have := this.2.1; unfold ck_wb; omega, ?_⟩
  have h4 := this.2.2.2
  have h5 : ck_fw lf run pk many (days - k - 1) (k + 1) (ck_wd s (ck_wb lf run pk many days k s) k pk) ≤ ck_fw lf run pk many (days - k) k s := by
    unfold ck_wb
    omega
  omega
theorem ck_sq_ok {lf run : Nat → Nat} {pk many days : Nat} (hpk : pk ≤ 4) (hd : days ≤ 10) (h : ck_fw lf run pk many days 0 0 < 1000) : ∀ k, k ≤ days → ck_vs pk (ck_sq lf run pk many days k) k ∧ ck_fw lf run pk many (days - k) k (ck_sq lf run pk many days k) < 1000
  | 0, _ => ⟨⟨Nat.pos_of_ne_zero (fun e => by have := Nat.pow_pos (n := pk) (show 0 < 11 by decide); omega), fun j _ => by show 0 / 11 ^ j % 11 ≤ 0; rw [Nat.zero_div]; exact Nat.le_refl 0⟩, h⟩
  | k + 1, hk => by
    obtain ⟨h1, h2⟩ := ck_sq_ok hpk hd h k (by omega)
    exact ⟨ck_vs_wd _ hpk (by omega) h1, (ck_wb_ok (by omega) h2).2.2⟩
/-- what plan answers -/
def ck_plv (A : Nat → Nat → Int32) (cl s days many what : Nat) : Int32 :=
  let PC := ck_pcl (A 128) s cl
  let lf := ck_lf A PC
  let run := ck_rn A PC
  let pk := ck_pc s
  if ck_fw lf run pk many days 0 0 < 1000 then
    (if what = 0 then nI (ck_fw lf run pk many days 0 0) else ck_co (va_up A 128 PC) (ck_wb lf run pk many days (what - 1) (ck_sq lf run pk many days (what - 1))) pk)
  else -1


/-! what a MINUTE of one clock leaves as it was -/
theorem ck_sn_A {M : Nat → Int32} {A : Nat → Nat → Int32} {c : Nat} {t : Int64} {k : Nat} (h1 : k ≠ 109) (h2 : k ≠ 110) (h3 : k ≠ 123) : (ck_sn M A c t).2.2 k = A k := by
  unfold ck_sn
  dsimp only
  split
  · rfl
  · split
    · dsimp only
      split
      · rw [va_upn h3, va_upn h1]
      · split
        · rw [va_upn h2, va_upn h1]
        · rw [va_upn h1]
    · dsimp only
      rw [va_upn h1]
theorem ck_kp_A {M : Nat → Int32} {A : Nat → Nat → Int32} {c s : Int32} {k : Nat} (h1 : k ≠ 118) (h2 : k ≠ 119) (h3 : k ≠ 120) (h4 : k ≠ 121) : (ck_kp M A c s).2 k = A k := by
  unfold ck_kp
  split
  · unfold ck_keepA
    dsimp only
    rw [va_upn h4, va_upn h3, va_upn h2, va_upn h1]
  · split <;> rfl
theorem ck_kp_M {M : Nat → Int32} {A : Nat → Nat → Int32} {c s : Int32} {j : Nat} (h1 : j ≠ 22) (h2 : j ≠ 51) (h3 : j ≠ 52) : (ck_kp M A c s).1 j = M j := by
  unfold ck_kp
  split
  · exact pk_un h1
  · split
    · exact (pk_un h3).trans (pk_un h2)
    · rfl
theorem ck_nx_A {A : Nat → Nat → Int32} {c : Nat} {x : Int32} {k : Nat} (h1 : k ≠ 111) (h2 : k ≠ 112) : ck_nextA A c x k = A k := by
  unfold ck_nextA
  split
  · rw [va_upn h1]
  · rw [va_upn h2, va_upn h1]
theorem ck_vj {A : Nat → Nat → Int32} {c j : Nat} {x : Int32} {k i : Nat} (hj : j ≠ c) : va_up A i (upd (A i) c x) k j = A k j := by
  unfold va_up
  split
  · rename_i h; rw [h]; exact pk_un hj
  · rfl
theorem ck_nx_j {A : Nat → Nat → Int32} {c j : Nat} {x : Int32} {k : Nat} (hj : j ≠ c) : ck_nextA A c x k j = A k j := by
  unfold ck_nextA
  split
  · exact ck_vj hj
  · exact (ck_vj (A := va_up A 111 (upd (A 111) c 1)) (i := 112) hj).trans (ck_vj hj)
theorem ck_sn_j {M : Nat → Int32} {A : Nat → Nat → Int32} {c j : Nat} {t : Int64} {k : Nat} (hj : j ≠ c) (h3 : k ≠ 123) : (ck_sn M A c t).2.2 k j = A k j := by
  unfold ck_sn
  dsimp only
  split
  · rfl
  · split
    · dsimp only
      split
      · rw [va_upn h3]; exact ck_vj hj
      · split
        · exact (ck_vj (A := va_up A 109 _) (i := 110) hj).trans (ck_vj hj)
        · exact ck_vj hj
    · exact ck_vj hj
theorem ck_sn_110 {M : Nat → Int32} {A : Nat → Nat → Int32} {c : Nat} {t : Int64} : (ck_sn M A c t).2.2 110 c = A 110 c ∨ (¬ A 117 c = 0 ∧ (ck_sn M A c t).2.2 110 c = nI (((A 110 c).toNatClampNeg + 1) % (A 103 c).toNatClampNeg)) := by
  unfold ck_sn
  dsimp only
  split
  · exact Or.inl rfl
  · split
    · dsimp only
      split
      · exact Or.inl rfl
      · split
        · exact Or.inr ⟨‹_›, pk_us⟩
        · exact Or.inl rfl
    · exact Or.inl rfl
theorem ck_A2_A {A : Nat → Nat → Int32} {c : Nat} {x : Int32} {p : Prop} [Decidable p] {k : Nat} (h1 : k ≠ 111) (h2 : k ≠ 112) : (if p then ck_nextA A c x else A) k = A k := by
  split
  · exact ck_nx_A h1 h2
  · rfl
theorem ck_A2_j {A : Nat → Nat → Int32} {c j : Nat} {x : Int32} {p : Prop} [Decidable p] {k : Nat} (hj : j ≠ c) : (if p then ck_nextA A c x else A) k j = A k j := by
  split
  · exact ck_nx_j hj
  · rfl
/-- the ways that a MINUTE of a clock may go -/
theorem ck_go_by (S : ck_S) (c : Nat) (P : ck_S → Prop) (h0 : S.2.1 108 c = 0 → P S)
    (h1 : ∀ n, ¬ S.2.1 108 c = 0 → P (S.1, va_up S.2.1 108 (upd (S.2.1 108) c (S.2.1 108 c - 1)), va_up S.2.2 116 (vp_updL (S.2.2 116) c (lN (n % 86400000000)))))
    (h2 : ∀ n A2 t, ¬ S.2.1 108 c = 0 → (∀ k, k ≠ 111 → k ≠ 112 → A2 k = va_up S.2.1 108 (upd (S.2.1 108) c (S.2.1 108 c - 1)) k) → (∀ k j, j ≠ c → A2 k j = va_up S.2.1 108 (upd (S.2.1 108) c (S.2.1 108 c - 1)) k j) → P ((ck_sn S.1 A2 c t).2.1, (ck_sn S.1 A2 c t).2.2, va_up S.2.2 116 (vp_updL (S.2.2 116) c (lN (n % 86400000000)))))
    (h3 : ∀ n A2 t s, ¬ S.2.1 108 c = 0 → (∀ k, k ≠ 111 → k ≠ 112 → A2 k = va_up S.2.1 108 (upd (S.2.1 108) c (S.2.1 108 c - 1)) k) → (∀ k j, j ≠ c → A2 k j = va_up S.2.1 108 (upd (S.2.1 108) c (S.2.1 108 c - 1)) k j) → P ((ck_kp (ck_sn S.1 A2 c t).2.1 (ck_sn S.1 A2 c t).2.2 (nI c) s).1, (ck_kp (ck_sn S.1 A2 c t).2.1 (ck_sn S.1 A2 c t).2.2 (nI c) s).2, va_up S.2.2 116 (vp_updL (S.2.2 116) c (lN (n % 86400000000))))) : P (ck_go S c) := by
  unfold ck_go
  dsimp only
  generalize ck_tn (S.2.2 116 c) + ck_tn (ck_more S.1 S.2.1 c) = n
  generalize (ck_tn (S.2.2 116 c) / 900000000 + 1) * 900000000 = q
  generalize hs : 60 * S.1 1 + nI (min 59 (60 * (q - ck_tn (S.2.2 116 c)) / ck_tn (ck_more S.1 S.2.1 c))) = s
  clear hs
  by_cases hl : S.2.1 108 c = 0
  · rw [if_pos hl]; exact h0 hl
  · rw [if_neg hl]
    by_cases hq : q ≤ n
    · rw [if_pos hq]
      have e1 : ∀ k, k ≠ 111 → k ≠ 112 → (if q = 86400000000 then ck_nextA (va_up S.2.1 108 (upd (S.2.1 108) c (S.2.1 108 c - 1))) c (ck_cal (S.2.1 102 (16 * c + 13)) (S.2.1 112 c) (S.1 3)) else va_up S.2.1 108 (upd (S.2.1 108) c (S.2.1 108 c - 1))) k = va_up S.2.1 108 (upd (S.2.1 108) c (S.2.1 108 c - 1)) k := fun k a b => ck_A2_A a b
      have e2 : ∀ k j, j ≠ c → (if q = 86400000000 then ck_nextA (va_up S.2.1 108 (upd (S.2.1 108) c (S.2.1 108 c - 1))) c (ck_cal (S.2.1 102 (16 * c + 13)) (S.2.1 112 c) (S.1 3)) else va_up S.2.1 108 (upd (S.2.1 108) c (S.2.1 108 c - 1))) k j = va_up S.2.1 108 (upd (S.2.1 108) c (S.2.1 108 c - 1)) k j := fun k j a => ck_A2_j a
      generalize (if q = 86400000000 then ck_nextA (va_up S.2.1 108 (upd (S.2.1 108) c (S.2.1 108 c - 1))) c (ck_cal (S.2.1 102 (16 * c + 13)) (S.2.1 112 c) (S.1 3)) else va_up S.2.1 108 (upd (S.2.1 108) c (S.2.1 108 c - 1))) = A2 at e1 e2 ⊢
      by_cases hz : (ck_sn S.1 A2 c (lN q)).1 = 0
      · rw [if_pos hz]; exact h2 n A2 (lN q) hl e1 e2
      · rw [if_neg hz]; exact h3 n A2 (lN q) s hl e1 e2
    · rw [if_neg hq]; exact h1 n hl
theorem ck_go_M {S : ck_S} {c j : Nat} (h1 : j ≠ 22) (h2 : j ≠ 51) (h3 : j ≠ 52) (h4 : j ≠ 47) (h5 : j ≠ 48) : (ck_go S c).1 j = S.1 j :=
  ck_go_by S c (fun T => T.1 j = S.1 j) (fun _ => rfl) (fun _ _ => rfl) (fun _ _ _ _ _ _ => ck_sn_M h4 h5) (fun _ _ _ _ _ _ _ => (ck_kp_M h1 h2 h3).trans (ck_sn_M h4 h5))
theorem ck_go_A {S : ck_S} {c k : Nat} (h : (k < 108 ∨ 112 < k) ∧ (k < 118 ∨ 121 < k) ∧ k ≠ 123) : (ck_go S c).2.1 k = S.2.1 k :=
  ck_go_by S c (fun T => T.2.1 k = S.2.1 k) (fun _ => rfl) (fun _ _ => va_upn (by omega))
    (fun _ _ _ _ e _ => (ck_sn_A (by omega) (by omega) (by omega)).trans ((e k (by omega) (by omega)).trans (va_upn (by omega))))
    (fun _ _ _ _ _ e _ => (ck_kp_A (by omega) (by omega) (by omega) (by omega)).trans ((ck_sn_A (by omega) (by omega) (by omega)).trans ((e k (by omega) (by omega)).trans (va_upn (by omega)))))
theorem ck_go_j {S : ck_S} {c j k : Nat} (hj : j ≠ c) (h : (k < 118 ∨ 121 < k) ∧ k ≠ 123) : (ck_go S c).2.1 k j = S.2.1 k j :=
  ck_go_by S c (fun T => T.2.1 k j = S.2.1 k j) (fun _ => rfl) (fun _ _ => ck_vj hj)
    (fun _ _ _ _ _ e => (ck_sn_j hj h.2).trans ((e k j hj).trans (ck_vj hj)))
    (fun _ _ _ _ _ _ e => by
      show (ck_kp _ _ _ _).2 k j = _
      rw [ck_kp_A (by omega) (by omega) (by omega) (by omega)]
      exact (ck_sn_j hj h.2).trans ((e k j hj).trans (ck_vj hj)))
theorem ck_go_L {S : ck_S} {c k : Nat} (h : k ≠ 116) : (ck_go S c).2.2 k = S.2.2 k :=
  ck_go_by S c (fun T => T.2.2 k = S.2.2 k) (fun _ => rfl) (fun _ _ => va_upn h) (fun _ _ _ _ _ _ => va_upn h) (fun _ _ _ _ _ _ _ => va_upn h)
theorem ck_Lj {L : Nat → Nat → Int64} {c j : Nat} {x : Int64} (h : j ≠ c) : va_up L 116 (vp_updL (L 116) c x) 116 j = L 116 j := by rw [va_us]; exact pk_uLn h
theorem ck_Lc {L : Nat → Nat → Int64} {c n : Nat} : ck_dl (va_up L 116 (vp_updL (L 116) c (lN (n % 86400000000)))) c := ⟨n % 86400000000, Nat.mod_lt _ (by decide), by rw [va_us]; exact pk_uLs⟩
theorem ck_go_Lj {S : ck_S} {c j : Nat} (h : j ≠ c) : (ck_go S c).2.2 116 j = S.2.2 116 j :=
  ck_go_by S c (fun T => T.2.2 116 j = S.2.2 116 j) (fun _ => rfl) (fun _ _ => ck_Lj h) (fun _ _ _ _ _ _ => ck_Lj h) (fun _ _ _ _ _ _ _ => ck_Lj h)
theorem ck_go_Lc {S : ck_S} {c : Nat} (h : ck_dl S.2.2 c) : ck_dl (ck_go S c).2.2 c :=
  ck_go_by S c (fun T => ck_dl T.2.2 c) (fun _ => h) (fun _ _ => ck_Lc) (fun _ _ _ _ _ _ => ck_Lc) (fun _ _ _ _ _ _ _ => ck_Lc)
theorem ck_go_108 (S : ck_S) (c : Nat) : (ck_go S c).2.1 108 c = if S.2.1 108 c = 0 then S.2.1 108 c else S.2.1 108 c - 1 := by
  refine ck_go_by S c (fun T => T.2.1 108 c = if S.2.1 108 c = 0 then S.2.1 108 c else S.2.1 108 c - 1) ?_ ?_ ?_ ?_
  · intro h; rw [if_pos h]
  · intro n h
    rw [if_neg h]
    dsimp only
    rw [va_us]; exact pk_us
  · intro n A2 t h e1 e2
    rw [if_neg h]
    dsimp only
    rw [ck_sn_A (by decide) (by decide) (by decide), e1 108 (by decide) (by decide), va_us]; exact pk_us
  · intro n A2 t s h e1 e2
    rw [if_neg h]
    dsimp only
    rw [ck_kp_A (by decide) (by decide) (by decide) (by decide), ck_sn_A (by decide) (by decide) (by decide), e1 108 (by decide) (by decide), va_us]; exact pk_us
theorem ck_go_110 (S : ck_S) (c : Nat) : (ck_go S c).2.1 110 c = S.2.1 110 c ∨ (¬ S.2.1 117 c = 0 ∧ (ck_go S c).2.1 110 c = nI (((S.2.1 110 c).toNatClampNeg + 1) % (S.2.1 103 c).toNatClampNeg)) := by
  refine ck_go_by S c (fun T => T.2.1 110 c = S.2.1 110 c ∨ (¬ S.2.1 117 c = 0 ∧ T.2.1 110 c = nI (((S.2.1 110 c).toNatClampNeg + 1) % (S.2.1 103 c).toNatClampNeg))) ?_ ?_ ?_ ?_
  · intro h; exact Or.inl rfl
  · intro n h
    dsimp only
    rw [va_upn (by decide)]
    exact Or.inl rfl
  · intro n A2 t h e1 e2
    have hz := @ck_sn_110 S.1 A2 c t
    rw [e1 110 (by decide) (by decide), e1 117 (by decide) (by decide), e1 103 (by decide) (by decide), va_upn (by decide), va_upn (by decide), va_upn (by decide)] at hz
    exact hz
  · intro n A2 t s h e1 e2
    have hz := @ck_sn_110 S.1 A2 c t
    rw [e1 110 (by decide) (by decide), e1 117 (by decide) (by decide), e1 103 (by decide) (by decide), va_upn (by decide), va_upn (by decide), va_upn (by decide)] at hz
    dsimp only
    rw [ck_kp_A (by decide) (by decide) (by decide) (by decide)]
    exact hz
theorem ck_kp_22 {M : Nat → Int32} {A : Nat → Nat → Int32} {c s : Int32} : (ck_kp M A c s).1 22 = M 22 ∨ (M 49 = 0 ∧ (ck_kp M A c s).1 22 = M 22 + 1) := by
  unfold ck_kp
  split
  · exact Or.inr ⟨‹_›, (pk_us : upd M 22 (M 22 + 1) 22 = M 22 + 1)⟩
  · split <;> exact Or.inl rfl
theorem ck_go_22 (S : ck_S) (c : Nat) : (ck_go S c).1 22 = S.1 22 ∨ (S.1 49 = 0 ∧ (ck_go S c).1 22 = S.1 22 + 1) := by
  refine ck_go_by S c (fun T => T.1 22 = S.1 22 ∨ (S.1 49 = 0 ∧ T.1 22 = S.1 22 + 1)) (fun _ => Or.inl rfl) (fun _ _ => Or.inl rfl) (fun _ _ _ _ _ _ => Or.inl (ck_sn_M (by decide) (by decide))) ?_
  intro n A2 t s h e1 e2
  have hz := @ck_kp_22 (ck_sn S.1 A2 c t).2.1 (ck_sn S.1 A2 c t).2.2 (nI c) s
  rw [ck_sn_M (by decide) (by decide), ck_sn_M (by decide) (by decide)] at hz
  exact hz
/-- a clock of the model is sound -/
def ck_ci (A : Nat → Nat → Int32) (L : Nat → Nat → Int64) (c : Nat) : Prop := ck_wf A c ∧ ck_rg A c ∧ ck_dl L c
theorem ck_go_ci {S : ck_S} {c k : Nat} (h : ck_ci S.2.1 S.2.2 k) : ck_ci (ck_go S c).2.1 (ck_go S c).2.2 k := by
  obtain ⟨hw, hr, hd⟩ := h
  have e102 : (ck_go S c).2.1 102 = S.2.1 102 := ck_go_A (by decide)
  have e103 : (ck_go S c).2.1 103 = S.2.1 103 := ck_go_A (by decide)
  have e105 : (ck_go S c).2.1 105 = S.2.1 105 := ck_go_A (by decide)
  have e106 : (ck_go S c).2.1 106 = S.2.1 106 := ck_go_A (by decide)
  have e113 : (ck_go S c).2.1 113 = S.2.1 113 := ck_go_A (by decide)
  have e115 : (ck_go S c).2.1 115 = S.2.1 115 := ck_go_A (by decide)
  have e117 : (ck_go S c).2.1 117 = S.2.1 117 := ck_go_A (by decide)
  unfold ck_ci ck_wf ck_rg
  rw [e102, e103, e105, e106, e113, e115, e117]
  by_cases hk : k = c
  · subst hk
    refine ⟨?_, ?_, ck_go_Lc hd⟩
    · obtain ⟨h1, ⟨p, wm, hp, hwm, hwm4, hpw⟩, h3⟩ := hw
      refine ⟨h1, ?_, h3⟩
      rcases ck_go_110 S k with e | ⟨e0, e⟩
      · exact ⟨p, wm, by rw [e]; exact hp, hwm, hwm4, hpw⟩
      · have := hpw e0
        refine ⟨(p + 1) % wm, wm, ?_, hwm, hwm4, fun _ => Nat.mod_lt _ (by omega)⟩
        rw [e, hp, hwm, nI_clamp (by omega), nI_clamp (by omega)]
    · obtain ⟨r1, r2, r3, r4, r15, rp, ⟨run, lf, hr1, hr2, hr0, hlf, hlf2⟩, ho⟩ := hr
      refine ⟨r1, r2, r3, r4, r15, rp, ?_, ho⟩
      rw [ck_go_108]
      split
      · exact ⟨run, lf, hr1, hr2, hr0, hlf, hlf2⟩
      · rename_i hne
        have : lf ≠ 0 := fun e => hne (by rw [hlf, e]; rfl)
        refine ⟨run, lf - 1, hr1, hr2, hr0, ?_, by omega⟩
        rw [hlf]
        exact pk_sub (b := 1) (by omega)
  · rw [ck_go_j hk (by decide), ck_go_j hk (by decide)]
    refine ⟨hw, hr, ?_⟩
    obtain ⟨a, h1, h2⟩ := hd
    exact ⟨a, h1, by rw [ck_go_Lj hk]; exact h2⟩
theorem ck_go_wo {S : ck_S} {c : Nat} (h : ck_wo S.1 S.2.1) : ck_wo (ck_go S c).1 (ck_go S c).2.1 := by
  unfold ck_wo
  rw [ck_go_A (by decide), ck_go_M (by decide) (by decide) (by decide) (by decide) (by decide)]
  exact h
/-- a MINUTE of the first n clocks -/
def ck_gs (S : ck_S) : Nat → ck_S
  | 0 => S
  | n + 1 => ck_go (ck_gs S n) n
/-- what the loop over the clocks keeps -/
def ck_iv (cl sd : Nat) (S : ck_S) : Prop := (∀ c, c < cl → ck_ci S.2.1 S.2.2 c) ∧ ck_wo S.1 S.2.1 ∧ ∃ n, n ≤ sd ∧ S.1 22 = nI n
theorem ck_gs_iv {cl sd : Nat} {S : ck_S} (h : ck_iv cl sd S) : ∀ n, ck_iv cl (sd + n) (ck_gs S n)
  | 0 => h
  | n + 1 => by
    obtain ⟨h1, h2, m, h3, h4⟩ := ck_gs_iv h n
    refine ⟨fun c hc => ck_go_ci (h1 c hc), ck_go_wo h2, ?_⟩
    rcases ck_go_22 (ck_gs S n) n with e | ⟨-, e⟩
    · exact ⟨m, by omega, by rw [ck_gs, e]; exact h4⟩
    · exact ⟨m + 1, by omega, by rw [ck_gs, e, h4]; exact nI_1 m⟩
theorem ck_gs_M {S : ck_S} {j : Nat} (h1 : j ≠ 22) (h2 : j ≠ 51) (h3 : j ≠ 52) (h4 : j ≠ 47) (h5 : j ≠ 48) : ∀ n, (ck_gs S n).1 j = S.1 j
  | 0 => rfl
  | n + 1 => (ck_go_M h1 h2 h3 h4 h5).trans (ck_gs_M h1 h2 h3 h4 h5 n)
/-- what the model keeps of an hour -/
def ck_kh (D : Nat → Int64) (h : Nat) (K : Nat → Int32) : Nat → (Nat → Int32)
  | 0 => K
  | c + 1 => upd (ck_kh D h K c) (1700 * c + h) ((D c / 1000).toInt32)


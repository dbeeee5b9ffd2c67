/-! PURE: the class's numbers and the reference's. What a clock's works say, both ways; a sound of the clock, both ways. -/
/-- the works of clock i, as the class has them -/
def cR_v (A : Nat → Nat → Int32) (i : Nat) (V T Q Fo St : Nat → Int32) : Prop :=
  (V 0 = A 102 (16 * i + 0) ∧ V 1 = A 102 (16 * i + 1) ∧ V 2 = A 102 (16 * i + 2) ∧ V 3 = A 102 (16 * i + 3) ∧ V 4 = A 102 (16 * i + 4) ∧ V 5 = A 102 (16 * i + 15) ∧ V 6 = A 102 (16 * i + 5) ∧ V 7 = A 102 (16 * i + 14) ∧ V 8 = A 102 (16 * i + 13) ∧ V 9 = A 102 (16 * i + 10) ∧ V 10 = A 102 (16 * i + 11) ∧ V 11 = A 102 (16 * i + 12)) ∧
  (∀ j, j < 4 → Q j = A 102 (16 * i + (6 + j))) ∧ V 12 = A 117 i ∧
  (¬ A 117 i = 0 → V 14 = A 103 i ∧ ∀ j, j < (A 103 i).toNatClampNeg → T j = A 104 (24 * i + j)) ∧
  (A 117 i = 0 → cx_fw Fo St (fun j => A 106 (400 * i + j)) (fun j => A 107 (400 * i + j)) (A 105 i).toNatClampNeg)
/-- what holds of clock i in the reference, besides ck_ci -/
def cR_i (A : Nat → Nat → Int32) (i : Nat) : Prop :=
  (A 102 (16 * i + 12) = 0 ∨ A 102 (16 * i + 12) = 1) ∧ (∀ j, j < 4 → ∃ q : Nat, q ≤ 16 ∧ A 102 (16 * i + (6 + j)) = nI q) ∧ (∃ r : Nat, r ≤ 2000 ∧ A 109 i = nI r) ∧ (∃ s : Nat, s ≤ 2000 ∧ A 102 (16 * i + 5) = nI s) ∧
  (A 117 i = 0 ∨ A 117 i = 1) ∧ (¬ A 117 i = 0 → ∀ j, j < (A 103 i).toNatClampNeg → ∃ t : Nat, t ≤ 12 ∧ A 104 (24 * i + j) = nI t) ∧ (A 117 i = 0 → 1 ≤ (A 105 i).toNatClampNeg) ∧
  (∃ d : Nat, 1 ≤ d ∧ d ≤ 31 ∧ A 111 i = nI d) ∧ (∃ m : Nat, 1 ≤ m ∧ m ≤ 12 ∧ A 112 i = nI m) ∧ (∃ u v : Nat, u ≤ 99 ∧ v ≤ 99 ∧ A 100 i = nI u ∧ A 101 i = nI v) ∧ ∃ ca : Nat, ca ≤ 100000 ∧ A 114 i = nI ca
theorem cj_ck_min (a b : Int32) : cj_min a b = ck_min a b := by
  unfold cj_min ck_min
  by_cases h : a < b
  · rw [if_pos h, if_pos (Int32.le_of_lt h)]
  · rw [if_neg h]
    split
    · rename_i h2
      exact Int32.le_antisymm h2 (Int32.not_lt.mp h)
    · rfl
theorem ck_mi_min (a b : Int32) : ck_mi2 a b = ck_min a b := rfl
theorem cx_si_eq (a b h : Int32) : cx_si a b h = ck_silent a b h := by
  unfold cx_si ck_silent
  simp only [Int32.lt_iff_toInt_lt, Int32.le_iff_toInt_le]
  repeat' split
  all_goals first | rfl | (exfalso; omega)
theorem ck_silent_b (a b h : Int32) : ck_silent a b h = 0 ∨ ck_silent a b h = 1 := by
  unfold ck_silent
  repeat' split
  all_goals first | exact Or.inl rfl | exact Or.inr rfl
/-- what lies above the height of a rack's stack doesn't count -/
theorem ck_rkS_in {C N : Nat → Int32} {h d m : Int32} {S S2 : Nat → Int32} : ∀ k, (∀ i, i < k → ck_rko (C i) (ck_ht C i)) → ∀ j, j < ck_ht C k → (ck_rkS C N h d m S k).1 j = (ck_rkS C N h d m S2 k).1 j := by
  intro k
  induction k with
  | zero => intro _ j hj; exact absurd hj (Nat.not_lt_zero _)
  | succ k ih =>
    intro hr j hj
    have ih := ih (fun i hi => hr i (by omega))
    obtain ⟨r1, r2, r3, r4⟩ := hr k (Nat.lt_succ_self _)
    have e1 : (ck_rkS C N h d m S k).2 = ck_ht C k := ck_rkS_ht k
    have e2 : (ck_rkS C N h d m S2 k).2 = ck_ht C k := ck_rkS_ht k
    rw [ck_ht] at hj
    show (ck_rk1 h d m (C k) (N k) (ck_rkS C N h d m S k)).1 j = (ck_rk1 h d m (C k) (N k) (ck_rkS C N h d m S2 k)).1 j
    unfold ck_rk1
    rw [e1, e2]
    by_cases h3 : C k ≤ 3
    · rw [if_pos h3] at hj
      rw [if_pos h3, if_pos h3]
      dsimp only
      by_cases e : j = ck_ht C k
      · rw [e, pk_us, pk_us]
      · rw [pk_un e, pk_un e]
        exact ih j (by omega)
    · rw [if_neg h3] at hj
      rw [if_neg h3, if_neg h3]
      by_cases h9 : 9 ≤ C k
      · rw [if_pos h9] at hj
        rw [if_pos h9, if_pos h9]
        dsimp only
        have h4 := r3 h3 h9
        by_cases e : j = ck_ht C k - 4
        · rw [e, pk_us, pk_us, ih _ (by omega), ih _ (by omega), ih _ (by omega), ih _ (by omega)]
        · rw [pk_un e, pk_un e]
          exact ih j (by omega)
      · rw [if_neg h9] at hj
        rw [if_neg h9, if_neg h9]
        dsimp only
        have h4 := r4 h3 h9
        by_cases e : j = ck_ht C k - 2
        · rw [e, pk_us, pk_us, ih _ (by omega), ih _ (by omega)]
        · rw [pk_un e, pk_un e]
          exact ih j (by omega)
theorem ck_ht_pos {C : Nat → Int32} {k : Nat} (hk : 1 ≤ k) (hr : ∀ i, i < k → ck_rko (C i) (ck_ht C i)) : 1 ≤ ck_ht C k := by
  obtain ⟨q, rfl⟩ : ∃ q, k = q + 1 := ⟨k - 1, by omega⟩
  obtain ⟨r1, r2, r3, r4⟩ := hr q (Nat.lt_succ_self _)
  rw [ck_ht]
  by_cases h3 : C q ≤ 3
  · rw [if_pos h3]; omega
  · rw [if_neg h3]
    by_cases h9 : 9 ≤ C q
    · rw [if_pos h9]
      have := r3 h3 h9
      omega
    · rw [if_neg h9]
      have := r4 h3 h9
      omega
theorem cx_cl_eq (x : Int32) : cj_max 0 (cj_min 24 x) = ck_cl x := by
  unfold cj_max cj_min ck_cl
  simp only [Int32.lt_iff_toInt_lt, Int32.le_iff_toInt_le]
  have e0 : (0 : Int32).toInt = 0 := by decide
  have e24 : (24 : Int32).toInt = 24 := by decide
  repeat' split
  all_goals first | rfl | (exfalso; omega) | (apply Int32.toInt_inj.mp; omega)
theorem ck_cl_n (x : Int32) : ∃ n : Nat, n ≤ 24 ∧ ck_cl x = nI n := by
  unfold ck_cl
  split
  · exact ⟨0, by omega, rfl⟩
  · rename_i h
    split
    · exact ⟨24, by omega, rfl⟩
    · rename_i h2
      exact nI_of2 (M := 24) (n := 24) (by decide) h (Int32.not_lt.mp h2)
/-- the strokes that a rack gives, both ways -/
theorem cx_rack_eq {A : Nat → Nat → Int32} {i : Nat} {V T Q Fo St S C : Nat → Int32} (hv : cR_v A i V T Q Fo St) (hi : cR_i A i) (h0 : A 117 i = 0) {x d m : Int32} (hd : d = A 111 i) (hm : m = A 112 i) :
    cx_sd V T (fun j => A 106 (400 * i + j)) (fun j => A 107 (400 * i + j)) S C (A 105 i).toNatClampNeg x d m = ck_cl (ck_rs A i x 0) := by
  obtain ⟨-, -, h12, -, hf⟩ := hv
  have hf := hf h0
  unfold cx_sd
  rw [if_pos (h12.trans h0), cx_cl_eq]
  unfold ck_rs
  rw [hd, hm]
  rw [ck_rkS_in _ hf.2.2.2 0 (ck_ht_pos (hi.2.2.2.2.2.2.1 h0) hf.2.2.2)]
theorem cx_wheel_eq {A : Nat → Nat → Int32} {i : Nat} {V T Q Fo St : Nat → Int32} (hv : cR_v A i V T Q Fo St) (h1 : ¬ A 117 i = 0) {p wm : Nat} (h103 : A 103 i = nI wm) (hwm : wm ≤ 24) (hp : p < wm) : cx_to V T (nI p) = A 104 (24 * i + p) := by
  obtain ⟨-, -, -, hw, -⟩ := hv
  obtain ⟨h14, hT⟩ := hw h1
  unfold cx_to
  rw [if_neg (nI_pos (by omega)), h14, h103, if_neg (nI_ge hp (by omega)), if_neg (show ¬ Int32.ofNat 24 ≤ nI p from nI_ge (a := p) (b := 24) (by omega) (by decide)), nI_clamp (by omega)]
  exact hT p (by rw [h103, nI_clamp (by omega)]; exact hp)
theorem ck_if109 {A : Nat → Nat → Int32} {Y Z W : Nat → Int32} {c1 c2 : Prop} [Decidable c1] [Decidable c2] : (if c1 then va_up (va_up A 109 Y) 123 Z else if c2 then va_up (va_up A 109 Y) 110 W else va_up A 109 Y) 109 = Y := by
  split
  · rw [va_upn (by decide), va_us]
  · split
    · rw [va_upn (by decide), va_us]
    · rw [va_us]
theorem ck_if110 {A : Nat → Nat → Int32} {Y Z W : Nat → Int32} {c1 c2 : Prop} [Decidable c1] [Decidable c2] (h : ¬ c1) : (if c1 then va_up (va_up A 109 Y) 123 Z else if c2 then va_up (va_up A 109 Y) 110 W else va_up A 109 Y) 110 = if c2 then W else A 110 := by
  rw [if_neg h]
  split
  · rw [va_us]
  · rw [va_upn (by decide)]
theorem ck_ret_or {sl au x15 u v : Int32} {a b : Nat} (ha : a ≤ 16) (hb : b ≤ 24) (h01 : au = 0 ∨ au = 1) (hau : au = 1 ↔ sl = 0) (h15 : x15 = au) (hu : u = nI a) (hv : v = nI b) :
    (ck_ret sl (nI a + nI b) = 0 ∧ (x15 = 0 ∨ a + b = 0)) ∨ (ck_ret sl (nI a + nI b) = 1 ∧ x15 = 1 ∧ 0 < a + b ∧ u = nI a ∧ v = nI b) := by
  unfold ck_ret
  rw [nI_add]
  rcases h01 with h | h
  · have hs : ¬ sl = 0 := fun z => absurd (h.symm.trans (hau.mpr z)) (by decide)
    rw [if_neg hs]
    exact Or.inl ⟨rfl, Or.inl (h15.trans h)⟩
  · rw [if_pos (hau.mp h)]
    by_cases h0 : 0 < a + b
    · rw [if_pos (show (0 : Int32) < nI (a + b) from (nI_ltI (a := 0) (b := a + b) (by omega) (by omega)).mpr h0)]
      exact Or.inr ⟨rfl, h15.trans h, h0, hu, hv⟩
    · rw [if_neg (show ¬ (0 : Int32) < nI (a + b) from fun z => h0 ((nI_ltI (a := 0) (b := a + b) (by omega) (by omega)).mp z))]
      exact Or.inl ⟨rfl, Or.inr (by omega)⟩
/-- a SOUND, both ways: behind it the clock stands alike, and what is heard of it -/
theorem cx_snd_eq {A : Nat → Nat → Int32} {i : Nat} {V T Q Fo St S C : Nat → Int32} (hv : cR_v A i V T Q Fo St) (hw : ck_wf A i) (hi : cR_i A i) (c4 : C 4 = A 111 i) (c5 : C 5 = A 112 i) (c7 : C 7 = A 109 i) (c8 : ¬ A 117 i = 0 → C 8 = A 110 i)
    {M : Nat → Int32} {t : Int64} {q : Nat} (hq : q < 96) (hh : ck_h t = nI (q / 4)) (hq4 : ck_q t = nI (q % 4)) {S2 C2 : Nat → Int32} (he : cx_snd V T Q (fun j => A 106 (400 * i + j)) (fun j => A 107 (400 * i + j)) S C (A 105 i).toNatClampNeg q = (S2, C2)) :
    (∀ j, ¬ j = 7 → ¬ j = 8 → ¬ j = 13 → ¬ j = 14 → ¬ j = 15 → C2 j = C j) ∧ C2 7 = (ck_sn M A i t).2.2 109 i ∧ (¬ A 117 i = 0 → C2 8 = (ck_sn M A i t).2.2 110 i) ∧
    (∃ r : Nat, r ≤ 2000 ∧ (ck_sn M A i t).2.2 109 i = nI r) ∧
    ∃ a b : Nat, a ≤ 16 ∧ b ≤ 24 ∧ (C 13 = 0 → C 14 = 0 → C2 13 = nI a ∧ C2 14 = nI b ∧ (((ck_sn M A i t).1 = 0 ∧ (C2 15 = 0 ∨ a + b = 0)) ∨ ((ck_sn M A i t).1 = 1 ∧ C2 15 = 1 ∧ 0 < a + b ∧ (ck_sn M A i t).2.1 47 = nI a ∧ (ck_sn M A i t).2.1 48 = nI b))) := by
  obtain ⟨⟨v0, v1, v2, v3, v4, v5, v6, v7, v8, v9, v10, v11⟩, vq, v12, vw, vf⟩ := id hv
  obtain ⟨i12, iq, ⟨r, hr, ir⟩, -, i117, it, ir0, -⟩ := id hi
  obtain ⟨-, ⟨p, wm, hp, hwm, hwm24, hpw⟩, -⟩ := id hw
  unfold cx_snd at he
  rw [cx_si_eq, v9, v10, v11] at he
  unfold ck_sn
  rw [hh, hq4]
  have q4 : q % 4 < 4 := Nat.mod_lt _ (by decide)
  have eq4 : (nI (q % 4)).toNatClampNeg = q % 4 := nI_clamp (by omega)
  rw [eq4]
  have hsil := ck_silent_b (A 102 (16 * i + 10)) (A 102 (16 * i + 11)) (nI (q / 4))
  generalize ck_silent (A 102 (16 * i + 10)) (A 102 (16 * i + 11)) (nI (q / 4)) = sl at he hsil
  -- the chime
  have hcm : cx_cm Q (nI ((q + 3) % 4)) = A 102 (16 * i + (if q % 4 = 0 then 9 else 5 + q % 4)) := by
    unfold cx_cm
    rw [if_neg (nI_pos (by omega)), if_neg (show ¬ Int32.ofNat 4 ≤ nI ((q + 3) % 4) from nI_ge (a := (q + 3) % 4) (b := 4) (Nat.mod_lt _ (by decide)) (by decide)), nI_clamp (by omega), vq _ (Nat.mod_lt _ (by decide))]
    congr 2
    split <;> omega
  obtain ⟨cq, hcq, ecq⟩ : ∃ cq : Nat, cq ≤ 16 ∧ A 102 (16 * i + (if q % 4 = 0 then 9 else 5 + q % 4)) = nI cq := by
    by_cases h0 : q % 4 = 0
    · rw [if_pos h0]; exact iq 3 (by decide)
    · rw [if_neg h0]
      obtain ⟨z, z1, z2⟩ := iq (q % 4 - 1) (by omega)
      rw [show 6 + (q % 4 - 1) = 5 + q % 4 by omega] at z2
      exact ⟨z, z1, z2⟩
  have hch : ∀ a b : Nat, a < 2 ^ 30 → b < 2 ^ 30 → ck_min (nI a) (nI b) = nI (min a b) := fun a b ha hb => by rw [← cj_ck_min]; exact cj_min_n (by omega) (by omega)
  by_cases hst : ¬ sl = 0 ∧ A 102 (16 * i + 12) = 1
  · -- silent, stopped
    rw [if_pos hst]
    rw [if_neg hst.1, hst.2, if_neg (by decide)] at he
    cases he
    refine ⟨fun j h7 h8 h13 h14 h15 => pk_un h15, ?_, fun h => ?_, ⟨r, hr, ir⟩, 0, 0, by omega, by omega, fun c13 c14 => ⟨?_, ?_, Or.inl ⟨rfl, Or.inl pk_us⟩⟩⟩
    · rw [pk_un (by decide)]; exact c7
    · rw [pk_un (by decide)]; exact c8 h
    · rw [pk_un (by decide)]; exact c13
    · rw [pk_un (by decide)]; exact c14
  · rw [if_neg hst]
    -- it sounds
    obtain ⟨au, h01, hau, he⟩ : ∃ au : Int32, (au = 0 ∨ au = 1) ∧ (au = 1 ↔ sl = 0) ∧ cx_sn2 V T Q (fun j => A 106 (400 * i + j)) (fun j => A 107 (400 * i + j)) S C (A 105 i).toNatClampNeg q au = (S2, C2) := by
      rcases hsil with h0 | h1
      · rw [if_pos h0] at he
        exact ⟨1, Or.inr rfl, ⟨fun _ => h0, fun _ => rfl⟩, he⟩
      · have hn0 : ¬ sl = 0 := by rw [h1]; decide
        rw [if_neg hn0] at he
        have h12 : A 102 (16 * i + 12) = 0 := i12.resolve_right (fun z => hst ⟨hn0, z⟩)
        rw [h12, if_pos rfl] at he
        exact ⟨0, Or.inl rfl, ⟨fun z => absurd z (by decide), fun z => absurd z hn0⟩, he⟩
    unfold cx_sn2 at he
    dsimp only at he
    rw [cj_ck_min, hcm, ecq, c7, ir, hch _ _ (by omega) (by omega), pk_sub (Nat.min_le_right _ _)] at he
    rw [ecq, ir, hch _ _ (by omega) (by omega)]
    dsimp only
    rw [pk_sub (Nat.min_le_right cq r)]
    generalize hca : min cq r = a at he ⊢
    have ha16 : a ≤ 16 := by omega
    have har : a ≤ r := by omega
    obtain ⟨C1, hC1⟩ : ∃ C1, C1 = upd (upd (upd C 15 au) 7 (nI (r - a))) 13 (nI a) := ⟨_, rfl⟩
    rw [← hC1] at he
    have g7 : C1 7 = nI (r - a) := by rw [hC1, pk_un (by decide), pk_us]
    have g8 : C1 8 = C 8 := by rw [hC1, pk_un (by decide), pk_un (by decide), pk_un (by decide)]
    have g13 : C1 13 = nI a := by rw [hC1, pk_us]
    have g14 : C 14 = 0 → C1 14 = nI 0 := fun c14 => by rw [hC1, pk_un (by decide), pk_un (by decide), pk_un (by decide)]; exact c14.trans nI_0.symm
    have g15 : C1 15 = au := by rw [hC1, pk_un (by decide), pk_un (by decide), pk_us]
    have go : ∀ j : Nat, ¬ j = 7 → ¬ j = 13 → ¬ j = 15 → C1 j = C j := fun j h7 h13 h15 => by rw [hC1, pk_un h13, pk_un h7, pk_un h15]
    clear hC1
    by_cases h0 : q % 4 = 0
    · rw [if_pos h0] at he ⊢
      obtain ⟨b, hb24, eb1, eb2⟩ : ∃ b : Nat, b ≤ 24 ∧ cx_sd V T (fun j => A 106 (400 * i + j)) (fun j => A 107 (400 * i + j)) S C1 (A 105 i).toNatClampNeg (nI (q / 4)) (C 4) (C 5) = nI b ∧ (if A 117 i = 0 then ck_cl (ck_rs A i (nI (q / 4)) 0) else A 104 (24 * i + (A 110 i).toNatClampNeg)) = nI b := by
        by_cases h117 : A 117 i = 0
        · obtain ⟨b, hb, eb⟩ := ck_cl_n (ck_rs A i (nI (q / 4)) 0)
          exact ⟨b, hb, (cx_rack_eq hv hi h117 c4 c5).trans eb, by rw [if_pos h117]; exact eb⟩
        · have hpp := hpw h117
          obtain ⟨b, hb, eb⟩ := it h117 p (by rw [hwm, nI_clamp (by omega)]; exact hpp)
          refine ⟨b, by omega, ?_, by rw [if_neg h117, hp, nI_clamp (by omega)]; exact eb⟩
          have hv12 : ¬ V 12 = 0 := by rw [v12]; exact h117
          unfold cx_sd
          rw [if_neg hv12, g8, c8 h117, hp, cx_wheel_eq hv h117 hwm hwm24 hpp]
          exact eb
      rw [eb1, cj_ck_min, hch _ _ (by omega) (by omega), pk_sub (Nat.min_le_right _ _)] at he
      rw [eb2, show ck_mi2 (nI b) (nI (r - a)) = nI (min b (r - a)) from hch _ _ (by omega) (by omega), pk_sub (Nat.min_le_right _ _)]
      dsimp only
      generalize hm : min b (r - a) = m at he ⊢
      rw [ck_if109, pk_us]
      by_cases hpos : (0 : Int32) < nI (r - a)
      · have hra : 0 < r - a := (nI_ltI (a := 0) (b := r - a) (by omega) (by omega)).mp hpos
        rw [if_pos hpos] at he
        have e2 : upd (upd (upd C1 7 (nI (r - a - m))) 14 (nI m)) 8 (cx_pa V (C 8) 1) = C2 := (Prod.mk.inj he).2
        rw [← e2]
        refine ⟨fun j h7 h8 h13 h14 h15 => ?_, ?_, fun h117 => ?_, ⟨r - a - m, by omega, rfl⟩, a, m, ha16, by omega, fun c13 c14 => ⟨?_, ?_, ?_⟩⟩
        · rw [pk_un h8, pk_un h14, pk_un h7, go j h7 h13 h15]
        · rw [pk_un (by decide), pk_un (by decide), pk_us]
        · rw [pk_us, ck_if110 h117, if_pos hpos, pk_us]
          have hpp := hpw h117
          unfold cx_pa
          rw [(vw h117).1, hwm, if_pos (show (1 : Int32) ≤ nI wm from (nI_leI (a := 1) (b := wm) (by omega) (by omega)).mpr (by omega)), c8 h117, hp, nI_1, cj_fm_n (by omega) (by omega) (by omega), nI_clamp (by omega), nI_clamp (by omega)]
        · rw [pk_un (by decide), pk_un (by decide), pk_un (by decide), g13]
        · rw [pk_un (by decide), pk_us]
        · exact ck_ret_or ha16 (by omega) h01 hau (by rw [pk_un (by decide), pk_un (by decide), pk_un (by decide), g15]) (by rw [pk_un (by decide), pk_us]) (by rw [pk_us])
      · have hra : r - a = 0 := by
          by_cases z : 0 < r - a
          · exact absurd ((nI_ltI (a := 0) (b := r - a) (by omega) (by omega)).mpr z) hpos
          · omega
        rw [if_neg hpos] at he
        have e2 : C1 = C2 := (Prod.mk.inj he).2
        rw [← e2]
        have hm0 : m = 0 := by omega
        rw [hm0]
        refine ⟨fun j h7 h8 h13 h14 h15 => go j h7 h13 h15, by rw [g7]; rfl, fun h117 => ?_, ⟨r - a - 0, by omega, rfl⟩, a, 0, ha16, by omega, fun c13 c14 => ⟨g13, g14 c14, ck_ret_or ha16 (by omega) h01 hau g15 (by rw [pk_un (by decide), pk_us]) (by rw [pk_us])⟩⟩
        rw [ck_if110 h117, if_neg hpos, g8]
        exact c8 h117
    · rw [if_neg h0] at he ⊢
      have e2 : C1 = C2 := (Prod.mk.inj he).2
      rw [← e2]
      dsimp only
      rw [va_us, pk_us, va_upn (by decide), show (nI a + 0 : Int32) = nI a + nI 0 from rfl]
      exact ⟨fun j h7 h8 h13 h14 h15 => go j h7 h13 h15, g7, fun h117 => g8.trans (c8 h117), ⟨r - a, by omega, rfl⟩, a, 0, ha16, by omega, fun c13 c14 => ⟨g13, g14 c14, ck_ret_or ha16 (by omega) h01 hau g15 (by rw [pk_us]) (by rw [pk_un (by decide), pk_us]; rfl)⟩⟩

/-! PURE: what is heard, and by whom, both ways. -/
theorem ck_abs_s {u v : Nat} (hu : u ≤ 99) (hv : v ≤ 99) : ck_abs (nI u - nI v) = ck_abs (nI v - nI u) := by
  have key : ∀ a b : Nat, a ≤ 99 → b ≤ 99 → a ≤ b → ck_abs (nI b - nI a) = nI (b - a) ∧ ck_abs (nI a - nI b) = nI (b - a) := by
    intro a b ha hb hab
    unfold ck_abs
    refine ⟨?_, ?_⟩
    · rw [pk_sub hab, if_neg (nI_pos (by omega))]
    · have e : nI a - nI b = -(nI (b - a)) := by rw [← pk_sub hab, Int32.neg_sub]
      by_cases h : a = b
      · subst h
        rw [Int32.sub_self, if_neg (by decide), Nat.sub_self]; rfl
      · rw [if_pos (pk_sneg (by omega) (by omega)), e, Int32.neg_neg]
  by_cases h : u ≤ v
  · rw [(key u v hu hv h).1, (key u v hu hv h).2]
  · rw [(key v u hv hu (by omega)).1, (key v u hv hu (by omega)).2]
theorem i32_bf (b f z : Int32) : b - f + z = b + z - f := by
  rw [Int32.sub_eq_add_neg, Int32.sub_eq_add_neg, Int32.add_assoc, Int32.add_comm (-f) z, ← Int32.add_assoc]
theorem cx_hs_eq {b f bit : Int32} {Z P : (Nat → Int32) × (Nat → Int32)} (h : ∀ s, s < 120 → Z.1 s = P.1 s ∧ Z.2 s = P.2 s) : ∀ n s, s < 120 → (cx_hs (b - f) bit Z n).1 s = (ck_hi b f bit P n).1 s ∧ (cx_hs (b - f) bit Z n).2 s = (ck_hi b f bit P n).2 s := by
  intro n
  induction n with
  | zero => exact h
  | succ n ih =>
    intro s hs
    rw [cx_hs_s, ck_hi, i32_bf]
    try dsimp only
    generalize b + 2 * nI n - f = x
    by_cases h1 : x < 0
    · rw [if_pos h1, if_neg (fun z => absurd h1 (Int32.not_lt.mpr z.1))]
      exact ih s hs
    · rw [if_neg h1]
      by_cases h2 : 120 ≤ x
      · rw [if_pos h2, if_neg (fun z => by
          have z2 := Int32.le_iff_toInt_le.mp z.2
          have z3 := Int32.le_iff_toInt_le.mp h2
          rw [show (119 : Int32).toInt = 119 from rfl] at z2
          rw [show (120 : Int32).toInt = 120 from rfl] at z3
          omega)]
        exact ih s hs
      · have h3 : 0 ≤ x ∧ x ≤ 119 := ⟨Int32.not_lt.mp h1, by
          rw [Int32.le_iff_toInt_le, show (119 : Int32).toInt = 119 from rfl]
          have z3 := Int32.lt_iff_toInt_lt.mp (Int32.not_le.mp h2)
          rw [show (120 : Int32).toInt = 120 from rfl] at z3
          omega⟩
        rw [if_neg h2, if_pos h3]
        obtain ⟨j, hj, rfl⟩ := nI_of2 (M := 119) (n := 119) (by decide) h1 h3.2
        rw [nI_clamp (by omega)]
        obtain ⟨i1, i2⟩ := ih j (by omega)
        obtain ⟨i3, i4⟩ := ih s hs
        try dsimp only
        unfold upd
        constructor <;> split <;> simp only [i1, i2, i3, i4]
theorem ck_hi_b {b f bit : Int32} {P : (Nat → Int32) × (Nat → Int32)} {q : Nat} (h : ∀ s, s < 120 → ∃ a : Nat, a ≤ q ∧ P.1 s = nI a) : ∀ n s, s < 120 → ∃ a : Nat, a ≤ q + n ∧ (ck_hi b f bit P n).1 s = nI a := by
  intro n
  induction n with
  | zero => exact h
  | succ n ih =>
    intro s hs
    rw [ck_hi]
    try dsimp only
    split
    · rename_i h3
      obtain ⟨j, hj, e⟩ := nI_of2 (M := 119) (n := 119) (by decide) (Int32.not_lt.mpr h3.1) h3.2
      rw [e, nI_clamp (by omega)]
      by_cases hsj : s = j
      · obtain ⟨a, ha, ea⟩ := ih j (by omega)
        exact ⟨a + 1, by omega, by show upd (ck_hi b f bit P n).1 j ((ck_hi b f bit P n).1 j + 1) s = nI (a + 1); rw [hsj, pk_us, ea, nI_1]⟩
      · obtain ⟨a, ha, ea⟩ := ih s hs
        exact ⟨a, by omega, by show upd (ck_hi b f bit P n).1 j ((ck_hi b f bit P n).1 j + 1) s = nI a; rw [pk_un hsj, ea]⟩
    · obtain ⟨a, ha, ea⟩ := ih s hs
      exact ⟨a, by omega, ea⟩
/-- the rows that are kept -/
def cR_so (A : Nat → Nat → Int32) (sd cl : Nat) : Prop := ∀ i, i < 200 → i < sd → ∃ ci nn a : Nat, ci < cl ∧ A 118 i = nI ci ∧ A 120 i + A 121 i = nI nn ∧ nn ≤ 40 ∧ A 119 i = nI a ∧ a ≤ 6100000
/-- places and reaches of the clocks, both ways -/
def cR_p (A : Nat → Nat → Int32) (CC VV : Nat → Nat → Int32) (cl : Nat) : Prop := ∀ i, i < cl → CC i 0 = A 100 i ∧ CC i 1 = A 101 i ∧ VV i 7 = A 102 (16 * i + 14) ∧ ∃ u v : Nat, u ≤ 99 ∧ v ≤ 99 ∧ A 100 i = nI u ∧ A 101 i = nI v
theorem cx_lf_eq {A CC VV : Nat → Nat → Int32} {cl : Nat} (hp : cR_p A CC VV cl) {c x y : Nat} (hc : c < cl) (hx : x ≤ 99) (hy : y ≤ 99) : cx_lf CC (nI x) (nI y) c = ck_wy A (nI x) (nI y) c := by
  obtain ⟨h0, h1, -, u, v, hu, hv, e0, e1⟩ := hp c hc
  unfold cx_lf ck_wy
  rw [h0, h1, e0, e1, ck_abs_s hu hx, ck_abs_s hv hy]
theorem cx_lo_eq {A CC VV : Nat → Nat → Int32} {cl sd x y : Nat} {mi : Int32} {X Y : Nat → Int32} (hp : cR_p A CC VV cl) (hso : cR_so A sd cl) (hcl : cl ≤ 8) (hx : x ≤ 99) (hy : y ≤ 99) :
    ∀ k, k ≤ min sd 200 → (∀ s, s < 120 → (cx_lo CC VV (A 118) (A 119) (A 120) (A 121) (nI x) (nI y) mi sd X Y k).1 s = (ck_ho A (nI x) (nI y) mi sd k).1 s ∧ (cx_lo CC VV (A 118) (A 119) (A 120) (A 121) (nI x) (nI y) mi sd X Y k).2 s = (ck_ho A (nI x) (nI y) mi sd k).2 s) ∧ ∀ s, s < 120 → ∃ a : Nat, a ≤ 40 * k ∧ (ck_ho A (nI x) (nI y) mi sd k).1 s = nI a := by
  intro k
  induction k with
  | zero =>
    intro _
    refine ⟨fun s hs => ?_, fun s hs => ⟨0, by omega, ?_⟩⟩
    · rw [cx_lo, ck_ho]
      unfold ck_z120 ck_cp
      simp only [if_pos hs, and_self]
    · rw [ck_ho]
      unfold ck_z120 ck_cp
      simp only [if_pos hs]
      rfl
  | succ k ih =>
    intro hk
    obtain ⟨i1, i2⟩ := ih (by omega)
    obtain ⟨ci, nn, a, hci, e1, e2, hnn, e3, ha⟩ := hso ((sd - 1 - k) % 200) (Nat.mod_lt _ (by decide)) (Nat.lt_of_le_of_lt (Nat.mod_le _ _) (by omega))
    rw [cx_lo, ck_ho]
    try dsimp only
    rw [e1, nI_clamp (show ci < 2 ^ 31 by omega), cx_lf_eq hp hci hx hy, (hp ci hci).2.2.1, e2, nI_clamp (show nn < 2 ^ 31 by omega)]
    by_cases h : ck_wy A (nI x) (nI y) ci ≤ A 102 (16 * ci + 14)
    · rw [if_pos h, if_pos h]
      refine ⟨fun s hs => cx_hs_eq i1 nn s hs, fun s hs => ?_⟩
      obtain ⟨z, hz, ez⟩ := ck_hi_b (b := A 119 ((sd - 1 - k) % 200) + ck_wy A (nI x) (nI y) ci / 10) (f := 60 * mi) (bit := 1 <<< (nI ci &&& 31)) i2 nn s hs
      exact ⟨z, by omega, ez⟩
    · rw [if_neg h, if_neg h]
      refine ⟨i1, fun s hs => ?_⟩
      obtain ⟨z, hz, ez⟩ := i2 s hs
      exact ⟨z, by omega, ez⟩
/-- the first run of strokes, both ways -/
theorem cx_cf_eq {X Y : Nat → Int32} {P : (Nat → Int32) × (Nat → Int32)} (h : ∀ s, s < 120 → X s = P.1 s ∧ Y s = P.2 s) (hb : ∀ s, s < 120 → ∃ a : Nat, a ≤ 8000 ∧ P.1 s = nI a) :
    ∀ n s (ct la la2 : Nat) (bt : Int32), s + n ≤ 120 → ct ≤ 8000 * s → la ≤ 200 → (ct = 0 → la = 120) → (¬ ct = 0 → la = la2) → cx_cf X Y n s (nI ct) bt (nI la) = ck_hc P n s (nI ct) bt (nI la2) := by
  intro n
  induction n with
  | zero => intro s ct la la2 bt _ _ _ _ _; rfl
  | succ n ih =>
    intro s ct la la2 bt hs hct hla h0 h1
    obtain ⟨hX, hY⟩ := h s (by omega)
    obtain ⟨a, ha, ea⟩ := hb s (by omega)
    rw [cx_cf, ck_hc, hX, hY, ea]
    have s3 : (3 : Int32) < nI s - nI la ↔ 3 + la < s := by
      rw [Int32.lt_iff_toInt_lt, pk_sub_toInt (by omega) (by omega), show (3 : Int32).toInt = 3 from rfl]
      omega
    have a0 : nI a ≤ 0 ↔ a = 0 := by
      rw [Int32.le_iff_toInt_le, nI_toInt (by omega), show (0 : Int32).toInt = 0 from rfl]
      omega
    have a1 : nI a = 0 ↔ a = 0 := ⟨fun z => (nI_eq (a := a) (b := 0) (by omega) (by omega)).mp z, fun z => by rw [z]; rfl⟩
    have c1 : nI ct = 0 ↔ ct = 0 := ⟨fun z => (nI_eq (a := ct) (b := 0) (by omega) (by omega)).mp z, fun z => by rw [z]; rfl⟩
    have go : (if nI a ≤ 0 then cx_cf X Y n (s + 1) (nI ct) bt (nI la) else cx_cf X Y n (s + 1) (nI ct + nI a) (bt ||| P.2 s) (nI s)) = (if nI a = 0 then ck_hc P n (s + 1) (nI ct) bt (nI la2) else ck_hc P n (s + 1) (nI ct + nI a) (bt ||| P.2 s) (nI s)) := by
      by_cases hz : a = 0
      · rw [if_pos (a0.mpr hz), if_pos (a1.mpr hz)]
        exact ih (s + 1) ct la la2 bt (by omega) (by omega) hla h0 h1
      · rw [if_neg (fun z => hz (a0.mp z)), if_neg (fun z => hz (a1.mp z)), nI_add]
        exact ih (s + 1) (ct + a) s s (bt ||| P.2 s) (by omega) (by omega) (by omega) (fun z => by omega) (fun _ => rfl)
    by_cases hc : ct = 0
    · rw [if_neg (fun z => by have := s3.mp z; have := h0 hc; omega), if_pos (c1.mpr hc)]
      exact go
    · have e := h1 hc
      rw [if_neg (fun z => hc (c1.mp z))]
      have s4 : nI s ≤ nI la2 + 3 ↔ ¬ 3 + la < s := by
        rw [show (3 : Int32) = nI 3 from rfl, nI_add, nI_leI (by omega) (by omega)]
        omega
      by_cases h3 : 3 + la < s
      · rw [if_pos (s3.mpr h3), if_neg (fun z => s4.mp z h3)]
      · rw [if_neg (fun z => h3 (s3.mp z)), if_pos (s4.mpr h3)]
        exact go
theorem cx_li_eq {A CC VV : Nat → Nat → Int32} {cl sd x y : Nat} {mi : Int32} (hp : cR_p A CC VV cl) (hso : cR_so A sd cl) (hcl : cl ≤ 8) (hx : x ≤ 99) (hy : y ≤ 99) : cx_li CC VV (A 118) (A 119) (A 120) (A 121) (nI x) (nI y) mi sd = ck_hr A (nI x) (nI y) mi sd := by
  obtain ⟨h1, h2⟩ := cx_lo_eq (X := fun _ => 0) (Y := fun _ => 0) (mi := mi) hp hso hcl hx hy (min sd 200) (Nat.le_refl _)
  unfold cx_li ck_hr ck_hq
  have := cx_cf_eq h1 (fun s hs => by obtain ⟨a, ha, e⟩ := h2 s hs; exact ⟨a, by omega, e⟩) 120 0 0 120 0 0 (by omega) (by omega) (by omega) (fun _ => rfl) (fun z => absurd rfl z)
  exact this
theorem cx_tk_eq {A CC VV : Nat → Nat → Int32} {cl sd x y : Nat} {mi : Int32} (hp : cR_p A CC VV cl) (hso : cR_so A sd cl) (hcl : cl ≤ 8) (hx : x ≤ 99) (hy : y ≤ 99) : cx_tk CC VV (A 118) (A 119) (A 120) (A 121) (nI x) (nI y) mi sd = if (ck_hr A (nI x) (nI y) mi sd).1 = 0 then 0 else ck_us (ck_hr A (nI x) (nI y) mi sd).1 := by
  unfold cx_tk
  rw [cx_li_eq hp hso hcl hx hy]
/-- the witness, both ways -/
theorem cx_wi_eq {A CC VV : Nat → Nat → Int32} {cl sd x y : Nat} (hp : cR_p A CC VV cl) (hso : cR_so A sd cl) (hcl : cl ≤ 8) (hx : x ≤ 99) (hy : y ≤ 99) {hr : Int32} (h1 : 1 ≤ hr) {k : Nat} (hk : k < 2 ^ 31) :
    ∀ n i m la, m ≤ k → cx_wi (A 119) (fun t => cx_tk CC VV (A 118) (A 119) (A 120) (A 121) (nI x) (nI y) t sd) hr sd n i (nI (k - m)) la = ck_wt A (nI x) (nI y) hr (nI k) sd n i (nI m) la := by
  intro n
  have h10 : ¬ (0 : Int32) = hr := fun z => by rw [← z] at h1; exact absurd h1 (by decide)
  induction n with
  | zero => intro i m la _; rfl
  | succ n ih =>
    intro i m la hm
    rw [cx_wi, ck_wt]
    try dsimp only
    rw [if_neg (nI_pos (by omega))]
    generalize A 119 ((sd - 1 - i) % 200) / 60 = t
    by_cases h2 : t = la
    · rw [if_pos h2, if_pos h2]
      exact ih (i + 1) m la hm
    · rw [if_neg h2, if_neg h2, cx_tk_eq hp hso hcl hx hy]
      by_cases h3 : (ck_hr A (nI x) (nI y) t sd).1 = 0
      · rw [if_pos h3, if_pos h3, if_neg h10]
        exact ih (i + 1) m t hm
      · rw [if_neg h3, if_neg h3]
        by_cases h4 : ck_us (ck_hr A (nI x) (nI y) t sd).1 = hr
        · rw [if_pos h4, if_pos h4]
          by_cases h5 : m = k
          · rw [h5, Nat.sub_self, if_pos (show nI 0 = (0 : Int32) from rfl), if_pos rfl]
          · rw [if_neg (nI_ne0 (by omega) (by omega)), if_neg (fun z => h5 ((nI_eq (by omega) (by omega)).mp z))]
            obtain ⟨d, hd⟩ : ∃ d, k - m = d + 1 := ⟨k - m - 1, by omega⟩
            rw [hd, pk_m1, show d = k - (m + 1) by omega, nI_1]
            exact ih (i + 1) (m + 1) t (by omega)
        · rw [if_neg h4, if_neg h4]
          exact ih (i + 1) m t hm
theorem cx_wi_neg {q2 : Nat → Int32} {tk : Int32 → Int32} {hr k : Int32} {sd : Nat} (hk : k < 0) : ∀ n i la, cx_wi q2 tk hr sd n i k la = -1 := by
  intro n i la
  cases n with
  | zero => rfl
  | succ n => rw [cx_wi, if_pos hk]
theorem ck_wt_neg {A : Nat → Nat → Int32} {x y hr k : Int32} {sd : Nat} (hk : k < 0) : ∀ n i (m : Nat) la, m + n < 2 ^ 31 → ck_wt A x y hr k sd n i (nI m) la = -1 := by
  intro n
  induction n with
  | zero => intro i m la _; rfl
  | succ n ih =>
    intro i m la hm
    rw [ck_wt]
    try dsimp only
    have hne : ¬ nI m = k := fun z => by rw [← z] at hk; exact nI_pos (by omega) hk
    split
    · exact ih (i + 1) m la (by omega)
    · split
      · exact ih (i + 1) m _ (by omega)
      · split
        · rw [nI_1]
          exact ih (i + 1) (m + 1) _ (by omega)
        · exact ih (i + 1) m _ (by omega)

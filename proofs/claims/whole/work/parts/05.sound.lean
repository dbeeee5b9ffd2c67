theorem kx_pI_d {st : List Value} {k : Int32 → List Value → Prop} (h : kx_pI st k) : ∃ x r, st = .int x :: r ∧ k x r := by
  unfold kx_pI at h; split at h
  · exact ⟨_, _, rfl, h⟩
  · exact h.elim
theorem kx_pL_d {st : List Value} {k : Int64 → List Value → Prop} (h : kx_pL st k) : ∃ x r, st = .long x :: r ∧ k x r := by
  unfold kx_pL at h; split at h
  · exact ⟨_, _, rfl, h⟩
  · exact h.elim
theorem kx_pR_d {st : List Value} {k : Nat → List Value → Prop} (h : kx_pR st k) : ∃ x r, st = .ref x :: r ∧ k x r := by
  unfold kx_pR at h; split at h
  · exact ⟨_, _, rfl, h⟩
  · exact h.elim
theorem kx_pA_d {st : List Value} {k : Value → List Value → Prop} (h : kx_pA st k) : ∃ x r, st = x :: r ∧ (x = .null ∨ ∃ q, x = .ref q) ∧ k x r := by
  unfold kx_pA at h; split at h
  · exact ⟨_, _, rfl, Or.inr ⟨_, rfl⟩, h⟩
  · exact ⟨_, _, rfl, Or.inl rfl, h⟩
  · exact h.elim
theorem kx_pV_d {st : List Value} {k : Value → List Value → Prop} (h : kx_pV st k) : ∃ x r, st = x :: r ∧ k x r := by
  unfold kx_pV at h; split at h
  · exact ⟨_, _, rfl, h⟩
  · exact h.elim
theorem kx_lI_d {ls : List (Option Value)} {i : Nat} {k : Int32 → Prop} (h : kx_lI ls i k) : ∃ x, kx_gl ls i = some (.int x) ∧ k x := by
  unfold kx_lI at h; split at h
  · exact ⟨_, by assumption, h⟩
  · exact h.elim
theorem kx_lL_d {ls : List (Option Value)} {i : Nat} {k : Int64 → Prop} (h : kx_lL ls i k) : ∃ x, kx_gl ls i = some (.long x) ∧ k x := by
  unfold kx_lL at h; split at h
  · exact ⟨_, by assumption, h⟩
  · exact h.elim
theorem kx_lA_d {ls : List (Option Value)} {i : Nat} {k : Value → Prop} (h : kx_lA ls i k) : ∃ x, kx_gl ls i = some x ∧ (x = .null ∨ ∃ q, x = .ref q) ∧ k x := by
  unfold kx_lA at h; split at h
  · exact ⟨_, by assumption, Or.inr ⟨_, rfl⟩, h⟩
  · exact ⟨_, by assumption, Or.inl rfl, h⟩
  · exact h.elim
theorem kx_aI_d {o : Option kx_C} {k : Nat → Nat → (Nat → Int32) → Prop} (h : kx_aI o k) : ∃ t n g, o = kI t n g ∧ k t n g := by
  unfold kx_aI at h; split at h
  · exact ⟨_, _, _, rfl, h⟩
  · exact h.elim
theorem kx_aL_d {o : Option kx_C} {k : Nat → (Nat → Int64) → Prop} (h : kx_aL o k) : ∃ n g, o = kL n g ∧ k n g := by
  unfold kx_aL at h; split at h
  · exact ⟨_, _, rfl, h⟩
  · exact h.elim
theorem kx_aR_d {o : Option kx_C} {k : Nat → (Nat → Option Nat) → Prop} (h : kx_aR o k) : ∃ n g, o = kR n g ∧ k n g := by
  unfold kx_aR at h; split at h
  · exact ⟨_, _, rfl, h⟩
  · exact h.elim
theorem kx_oF_d {o : Option kx_C} {c : Nat} {k : (Nat → Value) → Prop} (h : kx_oF o c k) : ∃ f, o = kO c f ∧ k f := by
  unfold kx_oF at h; split at h
  · obtain ⟨eq9, h8⟩ := kx_eqN_d h
    subst eq9
    exact ⟨_, rfl, h8⟩
  · exact h.elim
theorem kx_ln_d {o : Option kx_C} {k : Nat → Prop} (h : kx_ln o k) : ∃ n, k n ∧ ((∃ t g, o = kI t n g) ∨ (∃ g, o = kL n g) ∨ ∃ g, o = kR n g) := by
  unfold kx_ln at h; split at h
  · exact ⟨_, h, Or.inl ⟨_, _, rfl⟩⟩
  · exact ⟨_, h, Or.inr (Or.inl ⟨_, rfl⟩)⟩
  · exact ⟨_, h, Or.inr (Or.inr ⟨_, rfl⟩)⟩
  · exact h.elim
/-! locals -/
theorem kx_gl_sl (ls : List (Option Value)) : ∀ (i : Nat) (x : Option Value) (j : Nat), i < ls.length → kx_gl (kx_sl ls i x) j = if j = i then x else kx_gl ls j := by
  induction ls with
  | nil => intro i x j h; exact absurd h (Nat.not_lt_zero _)
  | cons o r ih =>
    intro i x j h
    cases i with
    | zero => cases j with
      | zero => simp [kx_sl, kx_gl]
      | succ j => simp [kx_sl, kx_gl]
    | succ i => cases j with
      | zero => simp [kx_sl, kx_gl]
      | succ j =>
        have h2 : i < r.length := by simpa using h
        simp only [kx_sl, kx_gl, ih i x j h2, Nat.add_right_cancel_iff]
theorem kx_len_sl (ls : List (Option Value)) : ∀ (i : Nat) (x : Option Value), (kx_sl ls i x).length = ls.length := by
  induction ls with
  | nil => intro i x; rfl
  | cons o r ih =>
    intro i x
    cases i with
    | zero => rfl
    | succ i => simp [kx_sl, ih]
theorem kx_len_pre (ls : List (Option Value)) (i : Nat) : (kx_pre ls i).length = ls.length := by
  cases i with
  | zero => rfl
  | succ j =>
    show (match kx_c2 (kx_gl ls j) with | true => kx_sl ls j none | false => ls).length = _
    split
    · exact kx_len_sl _ _ _
    · rfl
theorem kx_gl_pre {ls : List (Option Value)} {i j : Nat} {w : Value} (hi : i < ls.length) (h : kx_gl (kx_pre ls i) j = some w) : kx_gl ls j = some w ∧ ¬ (j + 1 = i ∧ w.category = 2) := by
  cases i with
  | zero => exact ⟨h, fun q => by omega⟩
  | succ n =>
    have h : kx_gl (match kx_c2 (kx_gl ls n) with | true => kx_sl ls n none | false => ls) j = some w := h
    split at h
    · rw [kx_gl_sl ls n none j (by omega)] at h
      split at h
      · cases h
      · exact ⟨h, fun q => by omega⟩
    · refine ⟨h, fun q => ?_⟩
      have e : j = n := by omega
      subst e
      rename_i h9 hc
      rw [h9, kx_c2_cat q.2] at hc
      cases hc
theorem kx_cat (ad : Nat → Nat) (v : Value) : (kx_v ad v).category = v.category := by cases v <;> rfl
/-- all the locals that are known, as the kit's list -/
def kx_lv (ad : Nat → Nat) (ls : List (Option Value)) : List (Nat × Value) := (List.range ls.length).filterMap fun i => (kx_gl ls i).map fun v => (i, kx_v ad v)
theorem kx_gl_lt {ls : List (Option Value)} : ∀ {i : Nat} {v : Value}, kx_gl ls i = some v → i < ls.length := by
  induction ls with
  | nil => intro i v h; cases h
  | cons o r ih =>
    intro i v h
    cases i with
    | zero => exact Nat.zero_lt_succ _
    | succ i => exact Nat.succ_lt_succ (ih h)
theorem kx_lv_mem {ad : Nat → Nat} {ls : List (Option Value)} {q : Nat × Value} : q ∈ kx_lv ad ls ↔ ∃ v, kx_gl ls q.1 = some v ∧ q.2 = kx_v ad v := by
  constructor
  · intro h
    obtain ⟨i, -, hi⟩ := List.mem_filterMap.mp h
    obtain ⟨v, hv, e⟩ := Option.map_eq_some_iff.mp hi
    subst e
    exact ⟨v, hv, rfl⟩
  · rintro ⟨v, h1, h2⟩
    refine List.mem_filterMap.mpr ⟨q.1, List.mem_range.mpr (kx_gl_lt h1), ?_⟩
    rw [h1]
    simp [← h2]
theorem kx_ls_has {ad : Nat → Nat} {lsr : Array Slot} {ls : List (Option Value)} (h : kx_ls ad lsr ls) : lv_has lsr ls.length (kx_lv ad ls) := by
  refine ⟨h.1, h.2.1, fun q hq => ?_⟩
  obtain ⟨v, h1, h2⟩ := kx_lv_mem.mp hq
  rw [h2]
  exact h.2.2 _ _ h1
theorem kx_ls_s1 {ad : Nat → Nat} {lsr : Array Slot} {ls : List (Option Value)} {i : Nat} {v : Value} (hi : i < ls.length) (h : lv_has lsr ls.length ((i, kx_v ad v) :: (kx_lv ad ls).filter (fun q => !(q.1 == i) && !(q.1 + 1 == i && q.2.category == 2)))) : kx_ls ad lsr (kx_s1 ls i v) := by
  refine ⟨by rw [h.1]; simp [kx_s1, kx_len_sl, kx_len_pre], h.2.1, fun j w hj => ?_⟩
  unfold kx_s1 at hj
  rw [kx_gl_sl _ _ _ _ (by rw [kx_len_pre]; exact hi)] at hj
  split at hj
  · rename_i e
    subst e
    cases hj
    exact h.2.2 (j, kx_v ad v) List.mem_cons_self
  · rename_i e
    obtain ⟨h1, h2⟩ := kx_gl_pre hi hj
    refine h.2.2 (j, kx_v ad w) (List.mem_cons_of_mem _ (List.mem_filter.mpr ⟨kx_lv_mem.mpr ⟨w, h1, rfl⟩, ?_⟩))
    simp only [Bool.and_eq_true, Bool.not_eq_true', beq_eq_false_iff_ne, Bool.and_eq_false_iff, kx_cat]
    refine ⟨e, ?_⟩
    by_cases q : j + 1 = i
    · exact Or.inr (fun z => h2 ⟨q, z⟩)
    · exact Or.inl q
theorem kx_ls_s2 {ad : Nat → Nat} {lsr : Array Slot} {ls : List (Option Value)} {i : Nat} {v : Value} (hi : i + 1 < ls.length) (h : lv_has lsr ls.length ((i, kx_v ad v) :: (kx_lv ad ls).filter (fun q => !(q.1 == i) && (!(q.1 == i + 1) && !(q.1 + 1 == i && q.2.category == 2))))) : kx_ls ad lsr (kx_s2 ls i v) := by
  refine ⟨by rw [h.1]; simp [kx_s2, kx_len_sl, kx_len_pre], h.2.1, fun j w hj => ?_⟩
  unfold kx_s2 at hj
  rw [kx_gl_sl _ _ _ _ (by rw [kx_len_sl, kx_len_pre]; omega), kx_gl_sl _ _ _ _ (by rw [kx_len_pre]; exact hi)] at hj
  split at hj
  · rename_i e
    subst e
    cases hj
    exact h.2.2 (j, kx_v ad v) List.mem_cons_self
  · rename_i e
    split at hj
    · cases hj
    · rename_i e2
      obtain ⟨h1, h2⟩ := kx_gl_pre (by omega) hj
      refine h.2.2 (j, kx_v ad w) (List.mem_cons_of_mem _ (List.mem_filter.mpr ⟨kx_lv_mem.mpr ⟨w, h1, rfl⟩, ?_⟩))
      simp only [Bool.and_eq_true, Bool.not_eq_true', beq_eq_false_iff_ne, Bool.and_eq_false_iff, kx_cat]
      refine ⟨e, e2, ?_⟩
      by_cases q : j + 1 = i
      · exact Or.inr (fun z => h2 ⟨q, z⟩)
      · exact Or.inl q
/-! the world -/
theorem kx_W.at {G : kx_G} {P : kx_P} {sz : Nat} {H : Heap} (h : kx_W G P sz H) {n : Nat} {x : kx_C} (hx : P n = some x) : kx_at G (G.2.1 n) x H := (h.2.2.2 n x hx).2
theorem kx_at.kept {G : kx_G} {q : Nat} {x : kx_C} {H H1 : Heap} (h : kx_at G q x H) (e : H1[q]? = H[q]?) : kx_at G q x H1 := by
  rcases x with ⟨t, n, g⟩ | ⟨n, g⟩ | ⟨n, g⟩ | ⟨c, f⟩
  · rcases h with h | h
    · exact Or.inl ⟨h.1, by rw [e]; exact h.2⟩
    · exact Or.inr h
  · exact e.trans h
  · exact e.trans h
  · obtain ⟨r, h1, h2⟩ := h
    exact ⟨r, h1, h2.kept e⟩
/-- two names that are old or new have two addresses, if one is new -/
theorem kx_ad_ne {G : kx_G} (h : kx_ad G) {a b : Nat} (hb : 64 ≤ b) (hab : a ≠ b) : G.2.1 a ≠ G.2.1 b := by
  rw [h.1 b hb]
  rcases Nat.lt_or_ge a 64 with q | q
  · have := h.2 a q; omega
  · rw [h.1 a q]; omega
theorem kx_ad_big {G : kx_G} (h : kx_ad G) {b : Nat} (hb : 64 ≤ b) : G.2.2.2.1.size ≤ G.2.1 b := by
  rw [h.1 b hb]; omega
/-- one cell of the world is another one -/
theorem kx_W.put {G : kx_G} {P : kx_P} {sz a : Nat} {H H1 : Heap} {x : kx_C} (h : kx_W G P sz H) (hg : kx_ad G) (ha : 64 ≤ a) (hs : a < sz) (hz : H1.size = H.size) (ho : ∀ q : Nat, q ≠ G.2.1 a → H1[q]? = H[q]?) (hx : kx_at G (G.2.1 a) x H1) : kx_W G (kx_set P a (some x)) sz H1 := by
  refine ⟨h.1, hz.trans h.2.1, fun q hq => ?_, fun n y hn => ?_⟩
  · rw [ho q (by have := kx_ad_big hg ha; omega)]
    exact h.2.2.1 q hq
  · unfold kx_set at hn
    split at hn
    · rename_i e
      subst e
      cases hn
      exact ⟨hs, hx⟩
    · rename_i e
      obtain ⟨h1, h2⟩ := h.2.2.2 n y hn
      exact ⟨h1, h2.kept (ho _ (kx_ad_ne hg ha e))⟩
/-- a new cell -/
theorem kx_W.new {G : kx_G} {P : kx_P} {sz : Nat} {H H1 : Heap} {x : kx_C} (h : kx_W G P sz H) (hg : kx_ad G) (hz : H1.size = H.size + 1) (ho : ∀ q : Nat, q < H.size → H1[q]? = H[q]?) (hx : kx_at G (G.2.1 sz) x H1) : kx_W G (kx_set P sz (some x)) (sz + 1) H1 := by
  have hlt : ∀ n, n < sz → G.2.1 n < H.size := by
    intro n hn
    rw [h.2.1, hg.1 sz h.1]
    rcases Nat.lt_or_ge n 64 with q | q
    · have := hg.2 n q; omega
    · rw [hg.1 n q]; omega
  have hold : G.2.2.2.1.size ≤ H.size := by rw [h.2.1]; exact kx_ad_big hg h.1
  refine ⟨by have := h.1; omega, ?_, fun q hq => ?_, fun n y hn => ?_⟩
  · rw [hz, h.2.1, hg.1 sz h.1, hg.1 (sz + 1) (by have := h.1; omega)]
    have := h.1
    omega
  · rw [ho q (Nat.lt_of_lt_of_le hq hold)]
    exact h.2.2.1 q hq
  · unfold kx_set at hn
    split at hn
    · rename_i e
      subst e
      cases hn
      exact ⟨Nat.lt_succ_self _, hx⟩
    · obtain ⟨h1, h2⟩ := h.2.2.2 n y hn
      exact ⟨Nat.lt_succ_of_lt h1, h2.kept (ho _ (hlt n h1))⟩
theorem kx_T_at {c : Nat} (h : c < 12) : kx_cl[c]? = some (kx_R c, kx_T c, kx_N c) := by
  have : ∀ c, c < 12 → kx_cl[c]? = some (kx_R c, kx_T c, kx_N c) := by
    intro c hc
    rcases (show c = 0 ∨ c = 1 ∨ c = 2 ∨ c = 3 ∨ c = 4 ∨ c = 5 ∨ c = 6 ∨ c = 7 ∨ c = 8 ∨ c = 9 ∨ c = 10 ∨ c = 11 by omega) with rfl | rfl | rfl | rfl | rfl | rfl | rfl | rfl | rfl | rfl | rfl | rfl <;> rfl
  exact this c h
theorem kx_nm {c : Nat} (h : c < 12) : ∀ a, a < kx_N c → ∀ b, b < kx_N c → a ≠ b → (kx_T c a).2.1 ≠ (kx_T c b).2.1 := by
  rcases (show c = 0 ∨ c = 1 ∨ c = 2 ∨ c = 3 ∨ c = 4 ∨ c = 5 ∨ c = 6 ∨ c = 7 ∨ c = 8 ∨ c = 9 ∨ c = 10 ∨ c = 11 by omega) with rfl | rfl | rfl | rfl | rfl | rfl | rfl | rfl | rfl | rfl | rfl | rfl
  · exact nmX0
  · exact nmX1
  · exact nmX2
  · exact nmX3
  · exact nmX4
  · exact nmX5
  · exact nmX6
  · exact nmX7
  · exact nmX8
  · exact nmX9
  · exact nmX10
  · exact nmX11
theorem kx_tyok {c : Nat} (h : c < 12) : ∀ k, k < kx_N c → parseFieldDescriptor (kx_T c k).2.2.1 = some (kx_ty c k) := by
  rcases (show c = 0 ∨ c = 1 ∨ c = 2 ∨ c = 3 ∨ c = 4 ∨ c = 5 ∨ c = 6 ∨ c = 7 ∨ c = 8 ∨ c = 9 ∨ c = 10 ∨ c = 11 by omega) with rfl | rfl | rfl | rfl | rfl | rfl | rfl | rfl | rfl | rfl | rfl | rfl
  · exact tyX0_ok
  · exact tyX1_ok
  · exact tyX2_ok
  · exact tyX3_ok
  · exact tyX4_ok
  · exact tyX5_ok
  · exact tyX6_ok
  · exact tyX7_ok
  · exact tyX8_ok
  · exact tyX9_ok
  · exact tyX10_ok
  · exact tyX11_ok
theorem kx_mk_v (ad : Nat → Nat) (f : Nat → Value) (N j : Nat) (h : j < N) : kx_v ad (f j) = vp_V ((List.range N).map fun j => kx_v ad (f j)) j := by
  simp [vp_V, h]
/-- an object of the world, in the kit's words -/
theorem kx_W.obj {G : kx_G} {P : kx_P} {sz q c : Nat} {H : Heap} {f : Nat → Value} (h : kx_W G P sz H) (hc : c < 12) (hx : P q = kO c f) : va_P G.1 kx_cl [(G.2.1 q, .inr (c, (List.range (kx_N c)).map fun j => kx_v G.2.1 (f j)))] H := by
  intro k x hk
  cases k with
  | succ k => simp at hk
  | zero =>
    simp at hk
    subst hk
    obtain ⟨r, h1, h2⟩ := h.at hx
    rw [kx_T_at hc] at h1
    cases h1
    exact ⟨_, kx_T_at hc, h2.to (fun j hj => kx_mk_v _ _ _ j hj)⟩
theorem kx_D1 (A : Nat → Prop) (a : Nat) (x : va_E) (h : A a) : va_D A [(a, x)] := by
  refine ⟨fun i j p q h1 h2 _ => ?_, fun k q h1 => ?_⟩
  · cases i with
    | succ i => simp at h1
    | zero => cases j with
      | succ j => simp at h2
      | zero => rfl
  · cases k with
    | succ k => simp at h1
    | zero => simp at h1; subst h1; exact h
theorem kx_obj_back {G : kx_G} {q c : Nat} {H : Heap} {f : Nat → Value} {fs : List Value} (hc : c < 12) (h : va_P G.1 kx_cl [(q, .inr (c, fs))] H) (hf : ∀ j, j < kx_N c → vp_V fs j = kx_v G.2.1 (f j)) : kx_at G q (.inr (.inr (.inr (c, f)))) H := by
  obtain ⟨r, h1, h2⟩ := h 0 (q, .inr (c, fs)) rfl
  rw [kx_T_at hc] at h1
  cases h1
  exact ⟨_, kx_T_at hc, h2.to hf⟩
theorem kx_fit_ok {t : Nat} {ty : FieldType} {v : Value} (ad : Nat → Nat) (h : kx_fit t v) (ht : kx_tk ty = t) (h4 : t < 4) : narrow ty (kx_v ad v) = kx_v ad v ∧ fits ty (kx_v ad v) = true := by
  subst ht
  cases ty <;> simp only [kx_tk] at h h4 <;> first | omega | skip
  all_goals cases v <;> simp only [kx_fit] at h <;> first | exact h.elim | skip
  all_goals try exact ⟨rfl, rfl⟩
  rcases h with rfl | rfl
  · exact ⟨rfl, rfl⟩
  · exact ⟨rfl, rfl⟩

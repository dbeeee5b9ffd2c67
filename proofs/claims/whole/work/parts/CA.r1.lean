/-! THE RELATION between the class's cells and the reference's numbers -/
def cR_sv (w : Nat) : Value := if w = 0 then .null else .ref w
/-- blocks of made names: 0..7 works, 8..15 clocks, 16 the spare works, 17 the plan's notes; 0 is none -/
def cR_len (p : Nat) : Nat := if p < 8 then 6 else if p < 16 then 2 else if p = 16 then 6 else 1
def cR_B (bl : Nat → Nat) (cl sz : Nat) : Prop :=
  144 ≤ sz ∧ (∀ p, p < 18 → ¬ bl p = 0 → 144 ≤ bl p ∧ bl p + cR_len p ≤ sz) ∧
  (∀ p q, p < 18 → q < 18 → ¬ p = q → ¬ bl p = 0 → ¬ bl q = 0 → bl p + cR_len p ≤ bl q ∨ bl q + cR_len q ≤ bl p) ∧
  ∀ i, i < 8 → (¬ bl i = 0 ↔ i < cl) ∧ (¬ bl (8 + i) = 0 ↔ i < cl)
def cR_C (A : Nat → Nat → Int32) (i : Nat) (C : Nat → Int32) : Prop :=
  C 0 = A 100 i ∧ C 1 = A 101 i ∧ C 4 = A 111 i ∧ C 5 = A 112 i ∧ C 6 = A 108 i ∧ C 7 = A 109 i ∧ (¬ A 117 i = 0 → C 8 = A 110 i) ∧ C 9 = A 115 i ∧ C 10 = A 113 i / 1440
def cR_kp (A : Nat → Nat → Int32) (i mi : Nat) (Kp : Nat → Int32) : Prop := ∀ h, h < 1667 → Kp h = if 60 * h < mi ∧ (A 114 i).toNatClampNeg ≤ 60 * h then A 122 (1700 * i + h) else -1
def cR_w (P : kx_P) (w : Nat) (V T Q Fo St S : Nat → Int32) : Prop :=
  P w = kO 9 (kf (cr9 w) V) ∧ P (w + 1) = kI 0 24 T ∧ P (w + 2) = kI 0 4 Q ∧ P (w + 3) = kO 2 (kf (cr2 w) Fo) ∧ P (w + 4) = kI 0 400 St ∧ P (w + 5) = kI 0 64 S
/-- clock i of the reference is the class's clock at c with the works at w -/
def cR_c (P : kx_P) (A : Nat → Nat → Int32) (L : Nat → Nat → Int64) (i c w mi : Nat) : Prop := ∃ V T Q Fo St S C Kp : Nat → Int32,
  cR_w P w V T Q Fo St S ∧ P c = kO 1 (kf (cr1 (.ref w) (L 116 i) (.ref (c + 1))) C) ∧ P (c + 1) = kI 0 1667 Kp ∧ cR_v A i V T Q Fo St ∧ cR_C A i C ∧ cR_kp A i mi Kp
/-- two states say the same of clock i -/
def cR_ag (A A2 : Nat → Nat → Int32) (i : Nat) : Prop :=
  (∀ k, (100 ≤ k ∧ k ≤ 117 ∧ k ≠ 102 ∧ k ≠ 104 ∧ k ≠ 106 ∧ k ≠ 107) → A2 k i = A k i) ∧ (∀ j, j < 16 → A2 102 (16 * i + j) = A 102 (16 * i + j)) ∧ (∀ j, j < 24 → A2 104 (24 * i + j) = A 104 (24 * i + j)) ∧
  (∀ j, j < 400 → A2 106 (400 * i + j) = A 106 (400 * i + j) ∧ A2 107 (400 * i + j) = A 107 (400 * i + j)) ∧ ∀ h, h < 1667 → A2 122 (1700 * i + h) = A 122 (1700 * i + h)
theorem cR_ag.rf (A : Nat → Nat → Int32) (i : Nat) : cR_ag A A i := ⟨fun _ _ => rfl, fun _ _ => rfl, fun _ _ => rfl, fun _ _ => ⟨rfl, rfl⟩, fun _ _ => rfl⟩
theorem ck_ht_cg {C C2 : Nat → Int32} : ∀ n, (∀ j, j < n → C2 j = C j) → ck_ht C2 n = ck_ht C n := by
  intro n
  induction n with
  | zero => intro _; rfl
  | succ n ih =>
    intro h
    rw [ck_ht, ck_ht, ih (fun j hj => h j (by omega)), h n (Nat.lt_succ_self _)]
theorem cx_fw_cg {Fo St C N C2 N2 : Nat → Int32} {nn : Nat} (h : cx_fw Fo St C N nn) (hC : ∀ j, j < nn → C2 j = C j ∧ N2 j = N j) : cx_fw Fo St C2 N2 nn := by
  obtain ⟨h1, h2, h3, h4⟩ := h
  refine ⟨h1, h2, fun k hk => ?_, fun k hk => ?_⟩
  · rw [(hC k hk).1, (hC k hk).2]; exact h3 k hk
  · rw [(hC k hk).1, ck_ht_cg k (fun j hj => (hC j (by omega)).1)]; exact h4 k hk
theorem cR_v_ag {A A2 : Nat → Nat → Int32} {i : Nat} {V T Q Fo St : Nat → Int32} (hw : ck_wf A i) (h : cR_v A i V T Q Fo St) (e : cR_ag A A2 i) : cR_v A2 i V T Q Fo St := by
  obtain ⟨e1, e2, e3, e4, e5⟩ := e
  obtain ⟨⟨v0, v1, v2, v3, v4, v5, v6, v7, v8, v9, v10, v11⟩, vq, v12, vw, vf⟩ := h
  obtain ⟨-, ⟨p, wm, -, hwm, hwm24, -⟩, nn, hnn, hnn4, -⟩ := hw
  have e103 := e1 103 (by omega)
  have e105 := e1 105 (by omega)
  have e117 := e1 117 (by omega)
  refine ⟨⟨?_, ?_, ?_, ?_, ?_, ?_, ?_, ?_, ?_, ?_, ?_, ?_⟩, fun j hj => ?_, ?_, fun h0 => ?_, fun h0 => ?_⟩
  · rw [e2 0 (by omega)]; exact v0
  · rw [e2 1 (by omega)]; exact v1
  · rw [e2 2 (by omega)]; exact v2
  · rw [e2 3 (by omega)]; exact v3
  · rw [e2 4 (by omega)]; exact v4
  · rw [e2 15 (by omega)]; exact v5
  · rw [e2 5 (by omega)]; exact v6
  · rw [e2 14 (by omega)]; exact v7
  · rw [e2 13 (by omega)]; exact v8
  · rw [e2 10 (by omega)]; exact v9
  · rw [e2 11 (by omega)]; exact v10
  · rw [e2 12 (by omega)]; exact v11
  · rw [e2 (6 + j) (by omega)]; exact vq j hj
  · rw [e117]; exact v12
  · rw [e117] at h0
    obtain ⟨q1, q2⟩ := vw h0
    rw [e103]
    refine ⟨q1, fun j hj => ?_⟩
    rw [e3 j (by rw [hwm, nI_clamp (by omega)] at hj; omega)]
    exact q2 j hj
  · rw [e117] at h0
    rw [e105]
    refine cx_fw_cg (vf h0) (fun j hj => ?_)
    rw [hnn, nI_clamp (by omega)] at hj
    exact e4 j (by omega)
theorem cR_C_ag {A A2 : Nat → Nat → Int32} {i : Nat} {C : Nat → Int32} (h : cR_C A i C) (e : cR_ag A A2 i) : cR_C A2 i C := by
  obtain ⟨e1, -⟩ := e
  unfold cR_C
  rw [e1 100 (by omega), e1 101 (by omega), e1 111 (by omega), e1 112 (by omega), e1 108 (by omega), e1 109 (by omega), e1 110 (by omega), e1 115 (by omega), e1 113 (by omega), e1 117 (by omega)]
  exact h
theorem cR_kp_ag {A A2 : Nat → Nat → Int32} {i mi : Nat} {Kp : Nat → Int32} (h : cR_kp A i mi Kp) (e : cR_ag A A2 i) : cR_kp A2 i mi Kp := by
  intro q hq
  rw [h q hq, e.1 114 (by omega), e.2.2.2.2 q hq]
theorem ck_wf_ag {A A2 : Nat → Nat → Int32} {i : Nat} (h : ck_wf A i) (e : cR_ag A A2 i) : ck_wf A2 i := by
  obtain ⟨e1, e2, e3, e4, e5⟩ := e
  obtain ⟨a1, a2, nn, a3, a4, a5⟩ := h
  unfold ck_wf
  rw [e2 0 (by omega), e1 110 (by omega), e1 103 (by omega), e1 117 (by omega), e1 105 (by omega)]
  refine ⟨a1, a2, nn, a3, a4, fun h0 k hk => ?_⟩
  rw [(e4 k (by omega)).1, ck_ht_cg k (fun j hj => (e4 j (by omega)).1)]
  exact a5 h0 k hk
theorem ck_rg_ag {A A2 : Nat → Nat → Int32} {i : Nat} (h : ck_rg A i) (e : cR_ag A A2 i) : ck_rg A2 i := by
  obtain ⟨e1, e2, e3, e4, e5⟩ := e
  unfold ck_rg
  rw [e2 0 (by omega), e2 1 (by omega), e2 2 (by omega), e2 3 (by omega), e2 4 (by omega), e2 15 (by omega), e1 115 (by omega), e1 108 (by omega), e1 113 (by omega)]
  exact h
theorem cR_i_ag {A A2 : Nat → Nat → Int32} {i : Nat} (hw : ck_wf A i) (h : cR_i A i) (e : cR_ag A A2 i) : cR_i A2 i := by
  obtain ⟨e1, e2, e3, e4, e5⟩ := e
  obtain ⟨-, ⟨p, wm, -, hwm, hwm24, -⟩, -⟩ := hw
  obtain ⟨i1, i2, i3, i4, i5, i6, i7, i8, i9, i10⟩ := h
  unfold cR_i
  rw [e2 12 (by omega), e2 5 (by omega), e1 109 (by omega), e1 117 (by omega), e1 103 (by omega), e1 105 (by omega), e1 111 (by omega), e1 112 (by omega), e1 100 (by omega), e1 101 (by omega), e1 114 (by omega)]
  refine ⟨i1, fun j hj => ?_, i3, i4, i5, fun h0 j hj => ?_, i7, i8, i9, i10⟩
  · rw [e2 (6 + j) (by omega)]; exact i2 j hj
  · rw [e3 j (by rw [hwm, nI_clamp (by omega)] at hj; omega)]
    exact i6 h0 j hj
/-- what holds of clock i in the reference -/
def cR_g (A : Nat → Nat → Int32) (L : Nat → Nat → Int64) (i : Nat) : Prop := ck_ci A L i ∧ cR_i A i
theorem cR_g_ag {A A2 : Nat → Nat → Int32} {L L2 : Nat → Nat → Int64} {i : Nat} (h : cR_g A L i) (e : cR_ag A A2 i) (eL : L2 116 i = L 116 i) : cR_g A2 L2 i := by
  obtain ⟨⟨h1, h2, h3⟩, h4⟩ := h
  refine ⟨⟨ck_wf_ag h1 e, ck_rg_ag h2 e, ?_⟩, cR_i_ag h1 h4 e⟩
  unfold ck_dl
  rw [eL]
  exact h3
theorem cR_w_fr {P P2 : kx_P} {w : Nat} {V T Q Fo St S : Nat → Int32} (h : cR_w P w V T Q Fo St S) (hP : ∀ n, w ≤ n → n < w + 6 → P2 n = P n) : cR_w P2 w V T Q Fo St S := by
  obtain ⟨a0, a1, a2, a3, a4, a5⟩ := h
  exact ⟨(hP _ (by omega) (by omega)).trans a0, (hP _ (by omega) (by omega)).trans a1, (hP _ (by omega) (by omega)).trans a2, (hP _ (by omega) (by omega)).trans a3, (hP _ (by omega) (by omega)).trans a4, (hP _ (by omega) (by omega)).trans a5⟩
theorem cR_c_fr {P P2 : kx_P} {A A2 : Nat → Nat → Int32} {L L2 : Nat → Nat → Int64} {i c w mi : Nat} (h : cR_c P A L i c w mi) (hw : ck_wf A i) (hP : ∀ n, (w ≤ n ∧ n < w + 6) ∨ (c ≤ n ∧ n < c + 2) → P2 n = P n) (e : cR_ag A A2 i) (eL : L2 116 i = L 116 i) : cR_c P2 A2 L2 i c w mi := by
  obtain ⟨V, T, Q, Fo, St, S, C, Kp, h1, h2, h3, h4, h5, h6⟩ := h
  refine ⟨V, T, Q, Fo, St, S, C, Kp, cR_w_fr h1 (fun n a b => hP n (Or.inl ⟨a, b⟩)), ?_, (hP _ (Or.inr ⟨by omega, by omega⟩)).trans h3, cR_v_ag hw h4 e, cR_C_ag h5 e, cR_kp_ag h6 e⟩
  rw [eL]
  exact (hP _ (Or.inr ⟨by omega, by omega⟩)).trans h2
/-- the class's own cells but for the clocks -/
def cR_st (P : kx_P) (M : Nat → Int32) (A : Nat → Nat → Int32) (cl se : Nat) (bl : Nat → Nat) : Prop :=
  (∃ K : Nat → Int32, P 64 = kO 10 (kf (cr10 (cR_sv (bl 16))) K) ∧ K 2 = M 5 ∧ K 5 = M 14 ∧ K 7 = M 21 ∧ K 10 = M 59 ∧ K 11 = M 60) ∧
  (∃ Al : Nat → Int32, P 65 = kO 0 (kf cr0 Al) ∧ Al 0 = M 1 ∧ Al 1 = M 3 ∧ Al 3 = M 2) ∧
  P 66 = kI 0 1700 (A 94) ∧ P 67 = kI 0 400 (A 95) ∧ (∃ (t x : Value) (F : Nat → Int32), P 68 = kO 8 (kf (cr8 t x) F)) ∧
  P 69 = kR 8 (fun i => if i < cl then some (bl (8 + i)) else none) ∧ (∃ (v : Value) (d : Int64) (h : Value) (C : Nat → Int32), P 70 = kO 1 (kf (cr1 v d h) C)) ∧
  (∃ F : Nat → Int32, P 71 = kO 7 (kf cr7 F) ∧ F 4 = M 22) ∧ cx_SR P (A 118) (A 119) (A 120) (A 121) ∧ (∃ X, P 76 = kI 0 120 X) ∧ (∃ Y, P 77 = kI 0 120 Y) ∧
  (∃ (v : Value) (F : Nat → Int32), P 78 = kO 6 (kf (cr6 v) F)) ∧ (∃ O, P 79 = kI 0 6 O) ∧ (∃ B, P 80 = kI 0 6 B) ∧
  (∃ F : Nat → Int32, P 81 = kO 4 (kf (cr4 (cR_sv (bl 17))) F) ∧ F 7 = nI se) ∧ (∃ X, P 82 = kI 0 4 X) ∧ (∃ X, P 83 = kI 0 4 X) ∧
  (∃ F : Nat → Int32, P 84 = kO 5 (kf cr5 F) ∧ F 4 = M 71) ∧ (P 85 = kI 0 100 (A 130) ∧ P 86 = kI 0 100 (A 131) ∧ P 87 = kI 0 100 (A 132) ∧ P 88 = kI 0 100 (A 133)) ∧
  (∃ F : Nat → Int32, P 89 = kO 3 (kf cr3 F) ∧ F 3 = M 80) ∧ (P 90 = kI 0 40 (A 134) ∧ P 91 = kI 0 40 (A 135) ∧ P 92 = kI 0 40 (A 136)) ∧
  P 1 = kI 5 12 cj_md ∧ P 2 = kI 5 11 cj_nf
/-- the made cells: clocks, the spare works, the plan's notes; from sz on there are none -/
def cR_dy (P : kx_P) (A : Nat → Nat → Int32) (L : Nat → Nat → Int64) (cl se sz : Nat) (bl : Nat → Nat) (km : Nat → Nat) : Prop :=
  cR_B bl cl sz ∧ (∀ i, i < cl → cR_c P A L i (bl (8 + i)) (bl i) (km i)) ∧ (¬ bl 16 = 0 → ∃ V T Q Fo St S : Nat → Int32, cR_w P (bl 16) V T Q Fo St S) ∧
  (¬ bl 17 = 0 → ∃ N : Nat → Int32, P (bl 17) = kI 0 39973 N ∧ ∀ i, i < 39973 → ∃ e : Nat, N i = nI e ∧ e < 64 * (se + 1)) ∧ ∀ n, sz ≤ n → P n = none
/-- what holds of the reference's own state -/
def cR_m (M : Nat → Int32) (A : Nat → Nat → Int32) (L : Nat → Nat → Int64) (cl mi sd : Nat) : Prop :=
  (∃ c0 w0 kx ky : Nat, M 12 = nI c0 ∧ M 13 = nI w0 ∧ kx ≤ 99 ∧ ky ≤ 99 ∧ M 59 = nI kx ∧ M 60 = nI ky) ∧ M 21 = nI cl ∧ cl ≤ 8 ∧ M 1 = nI mi ∧ mi ≤ 100000 ∧ (M 3 = 0 ∨ M 3 = 1) ∧ M 49 = 0 ∧ (∃ tp : Nat, tp ≤ 400 ∧ M 5 = nI tp) ∧ ck_wo M A ∧ M 22 = nI sd ∧ sd ≤ 8 * mi ∧ cR_so A sd cl ∧ (∀ i, i < cl → cR_g A L i) ∧ (∀ i, i < cl → (A 114 i).toNatClampNeg ≤ mi) ∧
  (∃ rn : Nat, rn ≤ 100 ∧ M 71 = nI rn ∧ ∀ j, j < rn → (∃ m : Nat, m ≤ 100000 ∧ A 131 j = nI m) ∧ -100000000 ≤ (A 132 j).toInt ∧ (A 132 j).toInt ≤ 100000000) ∧
  ∃ ln : Nat, ln ≤ 40 ∧ M 80 = nI ln ∧ ∀ j, j < ln → ∃ m : Nat, m ≤ 100000 ∧ A 135 j = nI m
/-- two states of the reference that say the same of all that counts -/
def cR_eq (M M2 : Nat → Int32) (A A2 : Nat → Nat → Int32) (L L2 : Nat → Nat → Int64) : Prop :=
  (∀ j, j = 1 ∨ j = 2 ∨ j = 3 ∨ j = 5 ∨ j = 12 ∨ j = 13 ∨ j = 14 ∨ j = 21 ∨ j = 22 ∨ j = 49 ∨ j = 59 ∨ j = 60 ∨ j = 71 ∨ j = 80 → M2 j = M j) ∧ (∀ k, k = 94 ∨ k = 95 ∨ (100 ≤ k ∧ k ≤ 122) ∨ (130 ≤ k ∧ k ≤ 136) → A2 k = A k) ∧ L2 116 = L 116
theorem cR_eq.ag {M M2 : Nat → Int32} {A A2 : Nat → Nat → Int32} {L L2 : Nat → Nat → Int64} (e : cR_eq M M2 A A2 L L2) (i : Nat) : cR_ag A A2 i := by
  obtain ⟨-, e2, -⟩ := e
  refine ⟨fun k hk => by rw [e2 k (by omega)], fun j _ => by rw [e2 102 (by omega)], fun j _ => by rw [e2 104 (by omega)], fun j _ => ⟨by rw [e2 106 (by omega)], by rw [e2 107 (by omega)]⟩, fun j _ => by rw [e2 122 (by omega)]⟩
theorem cR_m.eq {M M2 : Nat → Int32} {A A2 : Nat → Nat → Int32} {L L2 : Nat → Nat → Int64} {cl mi sd : Nat} (h : cR_m M A L cl mi sd) (e : cR_eq M M2 A A2 L L2) : cR_m M2 A2 L2 cl mi sd := by
  obtain ⟨a0, a1, a2, a3, a4, a5, a6, a7, a8, a9, a10, a11, a12, ac, a13, a14⟩ := h
  have hg : ∀ i, i < cl → cR_g A2 L2 i := fun i hi => cR_g_ag (a12 i hi) (e.ag i) (by rw [e.2.2])
  obtain ⟨e1, e2, e3⟩ := e
  refine ⟨by rw [e1 12 (by omega), e1 13 (by omega), e1 59 (by omega), e1 60 (by omega)]; exact a0, (e1 21 (by omega)).trans a1, a2, (e1 1 (by omega)).trans a3, a4, by rw [e1 3 (by omega)]; exact a5, (e1 49 (by omega)).trans a6, by rw [e1 5 (by omega)]; exact a7, ?_, (e1 22 (by omega)).trans a9, a10, ?_, hg, fun i hi => by rw [e2 114 (by omega)]; exact ac i hi, ?_, ?_⟩
  · unfold ck_wo
    rw [e1 2 (by omega), e2 94 (by omega)]
    exact a8
  · unfold cR_so
    rw [e2 118 (by omega), e2 119 (by omega), e2 120 (by omega), e2 121 (by omega)]
    exact a11
  · rw [e1 71 (by omega), e2 131 (by omega), e2 132 (by omega)]; exact a13
  · rw [e1 80 (by omega), e2 135 (by omega)]; exact a14
theorem cR_st.fr {P P2 : kx_P} {M M2 : Nat → Int32} {A A2 : Nat → Nat → Int32} {L L2 : Nat → Nat → Int64} {cl se : Nat} {bl : Nat → Nat} (h : cR_st P M A cl se bl) (hP : ∀ n, n < 93 → P2 n = P n) (e : cR_eq M M2 A A2 L L2) : cR_st P2 M2 A2 cl se bl := by
  obtain ⟨e1, e2, e3⟩ := e
  unfold cR_st cx_SR
  rw [hP 64 (by omega), hP 65 (by omega), hP 66 (by omega), hP 67 (by omega), hP 68 (by omega), hP 69 (by omega), hP 70 (by omega), hP 71 (by omega), hP 72 (by omega), hP 73 (by omega), hP 74 (by omega), hP 75 (by omega), hP 76 (by omega), hP 77 (by omega), hP 78 (by omega), hP 79 (by omega), hP 80 (by omega), hP 81 (by omega), hP 82 (by omega), hP 83 (by omega), hP 84 (by omega), hP 85 (by omega), hP 86 (by omega), hP 87 (by omega), hP 88 (by omega), hP 89 (by omega), hP 90 (by omega), hP 91 (by omega), hP 92 (by omega), hP 1 (by omega), hP 2 (by omega)]
  rw [e1 1 (by omega), e1 2 (by omega), e1 3 (by omega), e1 5 (by omega), e1 14 (by omega), e1 21 (by omega), e1 22 (by omega), e1 59 (by omega), e1 60 (by omega), e1 71 (by omega), e1 80 (by omega)]
  rw [e2 94 (by omega), e2 95 (by omega), e2 118 (by omega), e2 119 (by omega), e2 120 (by omega), e2 121 (by omega), e2 130 (by omega), e2 131 (by omega), e2 132 (by omega), e2 133 (by omega), e2 134 (by omega), e2 135 (by omega), e2 136 (by omega)]
  exact h
theorem cR_dy.fr {P P2 : kx_P} {M M2 : Nat → Int32} {A A2 : Nat → Nat → Int32} {L L2 : Nat → Nat → Int64} {cl mi sd se sz sz2 : Nat} {bl km : Nat → Nat} (hm : cR_m M A L cl mi sd) (h : cR_dy P A L cl se sz bl km) (hz : sz ≤ sz2) (hP : ∀ n, 144 ≤ n → P2 n = P n) (e : cR_eq M M2 A A2 L L2) : cR_dy P2 A2 L2 cl se sz2 bl km := by
  obtain ⟨h1, h2, h3, h4, h5⟩ := h
  have hb := h1.2.1
  have hcl : cl ≤ 8 := hm.2.2.1
  refine ⟨⟨Nat.le_trans h1.1 hz, fun p hp h0 => ⟨(hb p hp h0).1, Nat.le_trans (hb p hp h0).2 hz⟩, h1.2.2.1, h1.2.2.2⟩, fun i hi => ?_, fun h0 => ?_, fun h0 => ?_, fun n hn => (hP n (Nat.le_trans h1.1 (Nat.le_trans hz hn))).trans (h5 n (by omega))⟩
  · have b1 := hb i (by omega) ((h1.2.2.2 i (by omega)).1.mpr hi)
    have b2 := hb (8 + i) (by omega) ((h1.2.2.2 i (by omega)).2.mpr hi)
    exact cR_c_fr (h2 i hi) (hm.2.2.2.2.2.2.2.2.2.2.2.2.1 i hi).1.1 (fun n hn => hP n (by omega)) (e.ag i) (by rw [e.2.2])
  · obtain ⟨V, T, Q, Fo, St, S, hw⟩ := h3 h0
    have b1 := hb 16 (by omega) h0
    exact ⟨V, T, Q, Fo, St, S, cR_w_fr hw (fun n a b => hP n (by omega))⟩
  · have b1 := hb 17 (by omega) h0
    rw [hP _ b1.1]
    exact h4 h0

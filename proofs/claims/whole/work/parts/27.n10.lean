/-! what the model keeps of a clock; sounds, keeps and the rate in one contract each -/
def ck_ht (C : Nat → Int32) : Nat → Nat
  | 0 => 0
  | k + 1 => if C k ≤ 3 then ck_ht C k + 1 else if 9 ≤ C k then ck_ht C k - 3 else ck_ht C k - 1
theorem ck_rkS_ht {C N : Nat → Int32} {h d m : Int32} {S : Nat → Int32} : ∀ k, (ck_rkS C N h d m S k).2 = ck_ht C k := by
  intro k
  induction k with
  | zero => rfl
  | succ k ih =>
    rw [ck_rkS, ck_ht, ← ih, ck_rk1]
    split
    · rfl
    · split <;> rfl
/-- clock c's works, its place and its rack are sound -/
def ck_wf (A : Nat → Nat → Int32) (c : Nat) : Prop :=
  (∃ run : Nat, 1 ≤ run ∧ run ≤ 31 ∧ A 102 (16 * c + 0) = nI run) ∧
  (∃ p wm : Nat, A 110 c = nI p ∧ A 103 c = nI wm ∧ wm ≤ 24 ∧ (¬ A 117 c = 0 → p < wm)) ∧
  ∃ nn : Nat, A 105 c = nI nn ∧ nn ≤ 400 ∧ (A 117 c = 0 → ∀ k, k < nn → ck_rko (A 106 (400 * c + k)) (ck_ht (fun j => A 106 (400 * c + j)) k))
def ck_ST : Type := (Nat → Int32) × (Nat → Nat → Int32)
def ck_q (t : Int64) : Int32 := (t / 900000000 - t / 900000000 / 4 * 4).toInt32
def ck_h (t : Int64) : Int32 := (t / 3600000000 - t / 3600000000 / 24 * 24).toInt32
def ck_rs (A : Nat → Nat → Int32) (c : Nat) (h : Int32) : Nat → Int32 := (ck_rkS (fun j => A 106 (400 * c + j)) (fun j => A 107 (400 * c + j)) h (A 111 c) (A 112 c) (A 123) (A 105 c).toNatClampNeg).1
def ck_sn (M : Nat → Int32) (A : Nat → Nat → Int32) (c : Nat) (t : Int64) : Int32 × (Nat → Int32) × (Nat → Nat → Int32) :=
  let sl := ck_silent (A 102 (16 * c + 10)) (A 102 (16 * c + 11)) (ck_h t)
  let q := (ck_q t).toNatClampNeg
  let M0 := upd (upd M 47 0) 48 0
  if ¬ sl = 0 ∧ A 102 (16 * c + 12) = 1 then (0, M0, A)
  else
    let ch := ck_min (A 102 (16 * c + (if q = 0 then 9 else 5 + q))) (A 109 c)
    let r1 := A 109 c - ch
    if q = 0 then
      let st := ck_mi2 (if A 117 c = 0 then ck_cl (ck_rs A c (ck_h t) 0) else A 104 (24 * c + (A 110 c).toNatClampNeg)) r1
      let A1 := va_up A 109 (upd (A 109) c (r1 - st))
      (ck_ret sl (ch + st), upd (upd M0 47 ch) 48 st, if A 117 c = 0 then va_up A1 123 (ck_rs A c (ck_h t)) else if 0 < r1 then va_up A1 110 (upd (A 110) c (nI (((A 110 c).toNatClampNeg + 1) % (A 103 c).toNatClampNeg))) else A1)
    else (ck_ret sl (ch + 0), upd M0 47 ch, va_up A 109 (upd (A 109) c r1))
theorem ct_X11_sounds (l : Launch) (G : kx_G) {M : Nat → Int32} {A : Nat → Nat → Int32} {L : Nat → Nat → Int64} {R : kx_P} {sz : Nat} {c : Nat} (hc : c < 8) (hw : ck_wf A c) {t : Int64} (hq : ∃ qn : Nat, qn < 4 ∧ ck_q t = nI qn) :
    kx_M l G sX11_sounds 3 0 0 [.ref 93, .int (nI c), .long t] (mW M A L R) sz (some (.int (ck_sn M A c t).1)) (mW (ck_sn M A c t).2.1 (ck_sn M A c t).2.2 L R) sz := by
  obtain ⟨-, ⟨p, wm, hp, hwm, hwm24, hpw⟩, nn, hnn, hnn4, hok⟩ := hw
  obtain ⟨qn, hq4, hq⟩ := hq
  have eq : (ck_q t).toNatClampNeg = qn := by rw [hq, nI_clamp (by omega)]
  by_cases h1 : ¬ ck_silent (A 102 (16 * c + 10)) (A 102 (16 * c + 11)) (ck_h t) = 0 ∧ A 102 (16 * c + 12) = 1
  · have := ct_X11_sounds_s l G (M := M) (A := A) (L := L) (R := R) (sz := sz) hc hq hq4 rfl rfl h1.1 h1.2
    simpa only [ck_sn, if_pos h1] using this
  · rcases Nat.eq_zero_or_pos qn with h0 | h0
    · by_cases h7 : A 117 c = 0
      · have := ct_X11_sounds_r l G (M := M) (A := A) (L := L) (R := R) (sz := sz) hc hq hq4 rfl rfl h1 h0 h7 hnn hnn4 (fun k hk => by rw [ck_rkS_ht]; exact hok h7 k hk)
        have en : (A 105 c).toNatClampNeg = nn := by rw [hnn, nI_clamp (by omega)]
        simp only [ck_sn, if_neg h1, eq, if_pos h0, if_pos h7, ck_rs, en]
        exact this
      · have := ct_X11_sounds_w l G (M := M) (A := A) (L := L) (R := R) (sz := sz) hc hq hq4 rfl rfl h1 h0 h7 hp hwm (hpw h7) hwm24
        have en : (A 110 c).toNatClampNeg = p := by rw [hp, nI_clamp (by have := hpw h7; omega)]
        have em : (A 103 c).toNatClampNeg = wm := by rw [hwm, nI_clamp (by omega)]
        simp only [ck_sn, if_neg h1, eq, if_pos h0, if_neg h7, en, em]
        exact this
    · have := ct_X11_sounds_q l G (M := M) (A := A) (L := L) (R := R) (sz := sz) hc hq hq4 rfl rfl h1 h0
      simp only [ck_sn, if_neg h1, eq, if_neg (show ¬ qn = 0 by omega)]
      exact this
def ck_kp (M : Nat → Int32) (A : Nat → Nat → Int32) (c s : Int32) : (Nat → Int32) × (Nat → Nat → Int32) :=
  if M 49 = 0 then (upd M 22 (M 22 + 1), ck_keepA A ((M 22).toNatClampNeg % 200) c s (M 47) (M 48))
  else if c = M 50 then (upd (upd M 51 (M 51 + 1)) 52 (M 52 + (M 47 + M 48)), A) else (M, A)
theorem ct_X11_keeps (l : Launch) (G : kx_G) {M : Nat → Int32} {A : Nat → Nat → Int32} {L : Nat → Nat → Int64} {R : kx_P} {sz : Nat} {c s : Int32} (hn : M 49 = 0 → ∃ n : Nat, n < 2 ^ 30 ∧ M 22 = nI n) :
    kx_M l G sX11_keeps 1 0 0 [.ref 93, .int c, .int s] (mW M A L R) sz none (mW (ck_kp M A c s).1 (ck_kp M A c s).2 L R) sz := by
  by_cases h1 : M 49 = 0
  · obtain ⟨n, h2, h3⟩ := hn h1
    have := ct_X11_keeps_k l G (M := M) (A := A) (L := L) (R := R) (sz := sz) (c := c) (s := s) h1 h3 h2
    simp only [ck_kp, if_pos h1, h3, nI_clamp (show n < 2 ^ 31 by omega), nI_1]
    exact this
  · by_cases h2 : c = M 50
    · simp only [ck_kp, if_neg h1, if_pos h2]
      exact ct_X11_keeps_f l G h1 h2
    · simp only [ck_kp, if_neg h1, if_neg h2]
      exact ct_X11_keeps_o l G h1 h2
def ck_wm (M : Nat → Int32) (A : Nat → Nat → Int32) : Int32 := if M 1 / 60 < M 2 then A 94 (M 1 / 60).toNatClampNeg else 15
def ck_rt (M : Nat → Int32) (A : Nat → Nat → Int32) (c : Nat) : Int32 := ck_rate (fun j => A 102 (16 * c + j)) (A 108 c) (A 113 c) (A 115 c) (M 1) (ck_wm M A)
theorem ck_run0 {x : Int32} (h : ∃ run : Nat, 1 ≤ run ∧ run ≤ 31 ∧ x = nI run) : ¬ 1440 * x = 0 := by
  obtain ⟨run, h1, h2, rfl⟩ := h
  rw [show (1440 : Int32) = nI 1440 from rfl, pk_mul]
  exact nI_ne0 (by omega) (by omega)
theorem ct_X11_rateOf (l : Launch) (G : kx_G) {M : Nat → Int32} {A : Nat → Nat → Int32} {L : Nat → Nat → Int64} {R : kx_P} {sz : Nat} {c : Nat} (hc : c < 8) (hw : ck_wf A c) {mi w : Nat} (h1 : M 1 = nI mi) (hmi : mi ≤ 100000) (h2 : M 2 = nI w) (hw2 : w ≤ 1700) :
    kx_M l G sX11_rateOf 2 0 0 [.ref 93, .int (nI c)] (mW M A L R) sz (some (.int (ck_rt M A c))) (mW M A L R) sz := by
  have hd : M 1 / 60 = nI (mi / 60) := by rw [h1, show (60 : Int32) = nI 60 from rfl, pk_div (by omega) (by decide) (by decide)]
  by_cases h : M 1 / 60 < M 2
  · have hlt : mi / 60 < w := by rw [hd, h2, nI_ltI (by omega) (by omega)] at h; exact h
    simp only [ck_rt, ck_wm, if_pos h]
    exact ct_X11_rateOf_t l G hc (ck_run0 hw.1) h (by rw [hd]; exact vp_in_nI (by omega) (by decide))
  · simp only [ck_rt, ck_wm, if_neg h]
    exact ct_X11_rateOf_m l G hc (ck_run0 hw.1) h


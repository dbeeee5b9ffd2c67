def ck_str (T : Nat → Int32) (n : Nat) (Q : ck_Qt) : ck_Qt :=
  let s := ck_sk T n Q.1.1
  if ck_wo_ T n s = 590955 then (ck_wh T n 9 (ck_ps T n s, -1, Q.1.2.2.1, 0, 0, Q.1.2.2.2.2.2), Q.2.1, Q.2.2.1, 0, Q.2.2.2.2)
  else if ck_wo_ T n s = 24384684 then
    let r := ck_th T n 25 (ck_ps T n s) Q.1.2.2.1 0 Q.2.2.2.2.2
    ((r.1, r.2.1, r.2.2.1, Q.1.2.2.2), Q.2.1, r.2.2.2.1, 1, Q.2.2.2.2.1, r.2.2.2.2)
  else ((s, nI s, 1, Q.1.2.2.2), Q.2)
theorem ck_th_a {T : Nat → Int32} {n : Nat} : ∀ f a k w e, a ≤ n → (ck_th T n f a k w e).1 ≤ n
  | 0, a, k, w, e, h => h
  | f + 1, a, k, w, e, h => by
    have hs := ck_sk_le T h
    have hn := ck_num_a (T := T) (n := n) (lo := 0) (hi := 12) (b := -1) (k := k) hs.2
    unfold ck_th
    generalize ck_num T n 0 12 (ck_sk T n a) (-1) k = r at hn
    have hs1 := ck_sk_le T hn.2
    dsimp only
    split
    · split
      · exact hn.2
      · split
        · rename_i q
          have := ck_hcx_lt (T := T) (n := n) (a := r.2.1) (by rw [q]; decide)
          exact ck_th_a f _ _ _ _ (by omega)
        · exact hs1.2
    · exact hn.2
theorem ck_str_a {T : Nat → Int32} {n : Nat} (hn : n < 2 ^ 31) {Q : ck_Qt} (h : Q.1.1 ≤ n) : (ck_str T n Q).1.1 ≤ n := by
  have hs := ck_sk_le T h
  have hp := ck_ps_le T hs.2
  unfold ck_str
  dsimp only
  split
  · exact (ck_wh_gd (T := T) hn 9 0 _ ⟨hp.2, fun _ => Nat.zero_le _⟩).1.1
  · split
    · exact ck_th_a _ _ _ _ _ hp.2
    · exact hs.2
/-- the quarters' strokes -/
def ck_qtr (T : Nat → Int32) (n a : Nat) (k : Int32) (t : Nat → Int32) : Nat → Nat × Int32 × Int32 × (Nat → Int32)
  | 0 => (a, -1, k, t)
  | i + 1 => ((ck_num T n 0 16 (ck_qtr T n a k t i).1 (ck_qtr T n a k t i).2.1 (ck_qtr T n a k t i).2.2.1).2.1, (ck_num T n 0 16 (ck_qtr T n a k t i).1 (ck_qtr T n a k t i).2.1 (ck_qtr T n a k t i).2.2.1).2.2.1, (ck_num T n 0 16 (ck_qtr T n a k t i).1 (ck_qtr T n a k t i).2.1 (ck_qtr T n a k t i).2.2.1).2.2.2, upd (ck_qtr T n a k t i).2.2.2 (6 + i) (ck_num T n 0 16 (ck_qtr T n a k t i).1 (ck_qtr T n a k t i).2.1 (ck_qtr T n a k t i).2.2.1).1)
theorem ck_qtr_a {T : Nat → Int32} {n a : Nat} {k : Int32} {t : Nat → Int32} (h : a ≤ n) : ∀ i, (ck_qtr T n a k t i).1 ≤ n
  | 0 => h
  | i + 1 => (ck_num_a (ck_qtr_a h i)).2
theorem ck_sil_a {T : Nat → Int32} {n a : Nat} {k : Int32} {t : Nat → Int32} (h : a ≤ n) : (ck_sil T n a k t).1 ≤ n := by
  have z1 := ck_num_a (T := T) (n := n) (lo := 0) (hi := 23) (b := -1) (k := k) h
  unfold ck_sil
  generalize ck_num T n 0 23 a (-1) k = r1 at z1
  have z2 := ck_need_a (T := T) (n := n) (ch := 45) (b := r1.2.2.1) (k := r1.2.2.2) z1.2 (by decide)
  dsimp only
  generalize ck_need T n 45 r1.2.1 r1.2.2.1 r1.2.2.2 = r2 at z2
  have z3 := ck_num_a (T := T) (n := n) (lo := 0) (hi := 23) (b := r2.2.1) (k := r2.2.2) z2.2
  generalize ck_num T n 0 23 r2.1 r2.2.1 r2.2.2 = r3 at z3
  have hs := ck_sk_le T z3.2
  have hp := ck_ps_le T hs.2
  unfold ck_silE
  split
  · split
    · exact hp.2
    · split
      · exact hp.2
      · exact hs.2
  · exact z3.2
theorem ck_calR_a {T : Nat → Int32} {n a : Nat} {k : Int32} {t : Nat → Int32} (h : a ≤ n) : (ck_calR T n a k t).1 ≤ n := by
  have hs := ck_sk_le T h
  have hp := ck_ps_le T hs.2
  unfold ck_calR
  split
  · exact hp.2
  · split
    · exact hp.2
    · split
      · exact hp.2
      · exact hs.2

theorem ct_X11_readStrike (l : Launch) (G : kx_G) {M : Nat → Int32} {A : Nat → Nat → Int32} {L : Nat → Nat → Int64} {R : kx_P} {sz : Nat} {n : Nat} (h6 : M 6 = nI n) (hn : n ≤ 400) {a c q w : Nat} {k o h : Int32} {C N t e : Nat → Int32} (ha : a ≤ n) : kx_M l G sX11_readStrike 41 0 0 [.ref 93] (mW (ck_pM (ck_qM M (q) (w) (h)) (a) (-1) (k) (o) (c)) (ck_pA (ck_qA A (t) (e)) (C) (N)) L R) sz none (ck_qW M A L R (ck_str (A 95) n ((a, -1, k, o, c, C, N), q, w, h, t, e))) sz := by
  unfold ck_str
  dsimp only
  by_cases h1 : ck_wo_ (A 95) n (ck_sk (A 95) n a) = 590955
  · rw [if_pos h1]; exact ct_X11_readStrike_r l G h6 hn ha h1
  · rw [if_neg h1]
    by_cases h2 : ck_wo_ (A 95) n (ck_sk (A 95) n a) = 24384684
    · rw [if_pos h2]; exact ct_X11_readStrike_t l G h6 hn ha h2
    · rw [if_neg h2]; exact ct_X11_readStrike_w l G h6 hn ha h1 h2
theorem cQ_need (l : Launch) (G : kx_G) {M : Nat → Int32} {A : Nat → Nat → Int32} {L : Nat → Nat → Int64} {R : kx_P} {sz : Nat} {n : Nat} (h6 : M 6 = nI n) (hn : n ≤ 400) {Q : ck_Qt} (ha : Q.1.1 ≤ n) {ch : Int32} : kx_M l G sX11_need 2 0 0 [.ref 93, .int ch] (ck_qW M A L R Q) sz none (ck_qW M A L R (ck_neR (A 95) n ch Q.1, Q.2)) sz := cW_need l G (M := ck_qM M Q.2.1 Q.2.2.1 Q.2.2.2.1) (A := ck_qA A Q.2.2.2.2.1 Q.2.2.2.2.2) h6 hn ha
theorem ck_qW_o (M A L R Q) : ck_qW M A L R Q 93 = kO 11 (kf mR (ck_pM (ck_qM M Q.2.1 Q.2.2.1 Q.2.2.2.1) Q.1.1 Q.1.2.1 Q.1.2.2.1 Q.1.2.2.2.1 Q.1.2.2.2.2.1)) := rfl


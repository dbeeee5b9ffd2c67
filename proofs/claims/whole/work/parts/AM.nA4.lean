theorem kz_c12 : kz_co 12 = 590955 := by decide +kernel
theorem kz_c17 : kz_co 17 = 24384684 := by decide +kernel
theorem cx_stk {l : Launch} {G : kx_G} {Q : kx_P} {w : Nat} {sz : Nat} {T F V te qu Fo st : Nat → Int32} {n : Nat} {S : ck_R} {p wc : Nat} {h : Int32} {t e : Nat → Int32} (hw : 144 ≤ w) (hQ : Q 67 = kI 0 400 T) (hn : n ≤ 400) (ha : S.1 ≤ n) (hD : cx_D T n (S, p, wc, h, t, e) F V te qu Fo st) : kx_Mn l G sX8_readStrike 45 0 0 [.ref 68] (cx_8 (cx_fW (cx_vW Q w V te qu) w Fo st) (.ref w) F) sz (cx_PD Q w T n (ck_str T n (S, p, wc, h, t, e)) sz cx_rn) := by
  obtain ⟨he, hv, hth⟩ := hD
  have hv : cx_V t V qu := hv
  have hn9 : n < 2 ^ 31 := by omega
  have hT2 : ∀ V te qu Fo st, cx_fW (cx_vW Q w V te qu) w Fo st 67 = kI 0 400 T := fun _ _ _ _ _ => (cx_f67 hw).trans ((cx_v67 hw).trans hQ)
  have hle := ck_sk_le T ha
  have hps := ck_ps_le T hle.2
  have c0 := kz_c12
  have c1 := kz_c17
  unfold ck_str
  dsimp only
  by_cases w0 : ck_wo_ T n (ck_sk T n S.1) = 590955
  · rw [if_pos w0]
    have hE : cx_E T n (ck_ps T n (ck_sk T n S.1), -1, S.2.2.1, 0, 0, S.2.2.2.2.2) (cx_tw T n (ck_sk T n S.1) F) (upd Fo 1 0) st := ⟨he.1, rfl, he.2.2.1, he.2.2.2.1, he.2.2.2.2.1, pk_us, fun j hj => absurd hj (Nat.not_lt_zero j)⟩
    have hsl : ck_sl n 0 (ck_ps T n (ck_sk T n S.1), -1, S.2.2.1, 0, 0, S.2.2.2.2.2) := ⟨hps.2, fun _ => Nat.zero_le _⟩
    have hlv : ck_lv 9 (ck_ps T n (ck_sk T n S.1), -1, S.2.2.1, 0, 0, S.2.2.2.2.2) := fun _ => ⟨0, rfl, by omega, by omega⟩
    have hsum := cx_sum (l := l) (G := G) (Q := cx_vW Q w (upd (upd V 12 0) 14 0) te qu) (sz := sz) hw (T := T) (V := upd (upd V 12 0) 14 0) ((cx_v67 hw).trans hQ) cx_v0 hn 9 _ rfl hsl hlv
    have hM := hsum _ _ _ hE
    have hg := ck_wh_gd (T := T) hn9 9 0 _ hsl
    refine (ck9_r l G (P := Q) hw (hT2 V te qu Fo st) he.1 hn he.2.1 hle.2 (d := 45) (d2 := 8 + 4 * 9) (by omega) (by omega) (w0.trans c0.symm) hM).imp ?_
    generalize ck_wh T n 9 (ck_ps T n (ck_sk T n S.1), -1, S.2.2.1, 0, 0, S.2.2.2.2.2) = S2 at hg ⊢
    rintro r P2 s2 ⟨F2, Fo2, st2, hr, rfl, rfl, hE2, hX2⟩
    refine ⟨F2, upd (upd V 12 0) 14 0, te, qu, Fo2, st2, ?_, rfl, rfl, fun q => ⟨?_, hv, rfl, fun z => absurd z (show ¬ (0 : Int32) = 1 by decide)⟩, hX2⟩
    · exact hr
    · have h9 := hE2 q
      exact ⟨h9.1, h9.2.1, h9.2.2.1.trans (hg.2.1 q).2, h9.2.2.2.1, h9.2.2.2.2.1, h9.2.2.2.2.2.1, h9.2.2.2.2.2.2⟩
  by_cases w1 : ck_wo_ T n (ck_sk T n S.1) = 24384684
  · rw [if_neg w0, if_pos w1]
    have hE : cx_E0 T n (ck_ps T n (ck_sk T n S.1), -1, S.2.2.1, S.2.2.2) (cx_tw T n (ck_sk T n S.1) F) Fo st := ⟨he.1, rfl, he.2.2.1, he.2.2.2.1, he.2.2.2.2.1, he.2.2.2.2.2.1, he.2.2.2.2.2.2⟩
    have hM := ct_X8_readTeeth l G (P := Q) (sz := sz) hw (F := cx_tw T n (ck_sk T n S.1) F) (V := upd (upd V 12 1) 14 0) (te := te) (qu := qu) (Fo := Fo) (st := st) hQ hn (S := S) (p := p) (t := t) (e := e) hps.2 hE hv rfl rfl rfl
    exact ck9_w l G (P := Q) hw (hT2 V te qu Fo st) he.1 hn he.2.1 hle.2 (d := 45) (by omega) (fun z => w0 (z.trans c0)) (w1.trans c1.symm) hM
  · rw [if_neg w0, if_neg w1]
    exact kx_Mn.ex (ck9_n l G (P := Q) hw (hT2 V te qu Fo st) he.1 hn he.2.1 hle.2 (fun z => w0 (z.trans c0)) (fun z => w1 (z.trans c1))) (cx_PD.f rfl (ck_m1 _ (by omega)) (cx_rf_X (a := ck_sk T n S.1) (F := cx_tw T n (ck_sk T n S.1) F) he.2.2.2.1 (show ¬ (1 : Int32) = 0 by decide) S.2.2.2))

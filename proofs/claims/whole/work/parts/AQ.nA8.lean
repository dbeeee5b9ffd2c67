theorem cx_par {l : Launch} {G : kx_G} {Q : kx_P} {w : Nat} {sz : Nat} {T F V te qu Fo st : Nat → Int32} {n : Nat} {S : ck_R} {p wc : Nat} {h : Int32} {t e : Nat → Int32} (hw : 144 ≤ w) (hQ : Q 67 = kI 0 400 T) (hn : n ≤ 400) (ha : S.1 ≤ n) (hp : p ≤ 16) (hD : cx_D T n (S, p, wc, h, t, e) F V te qu Fo st) : kx_Mn l G sX8_readPart 46 0 0 [.ref 68, .int (nI p)] (cx_8 (cx_fW (cx_vW Q w V te qu) w Fo st) (.ref w) F) sz (cx_PD Q w T n (ck_par T n (S, p, wc, h, t, e)) sz cx_rb) := by
  obtain ⟨he, hv, hth⟩ := hD
  have hv : cx_V t V qu := hv
  have hth : cx_Th h wc e V te := hth
  have hn9 : n < 2 ^ 31 := by omega
  have hT2 : cx_fW (cx_vW Q w V te qu) w Fo st 67 = kI 0 400 T := (cx_f67 hw).trans ((cx_v67 hw).trans hQ)
  have hle := ck_sk_le T ha
  have hps := ck_ps_le T hle.2
  have hD2 : cx_D T n ((ck_ps T n (ck_sk T n S.1), -1, S.2.2), p + 1, wc, h, t, e) (cx_tw T n (ck_sk T n S.1) F) V te qu Fo st := ⟨⟨he.1, rfl, he.2.2.1, he.2.2.2.1, he.2.2.2.2.1, he.2.2.2.2.2.1, he.2.2.2.2.2.2⟩, hv, hth⟩
  have hr9 := fun v => (ck_dsp_ab (T := T) hn9 (v := v) (S := (ck_ps T n (ck_sk T n S.1), -1, S.2.2)) (p := p + 1) (w := wc) (h := h) (t := t) (e := e) hps.2).2
  have hx9 : ∀ kd : Int32, ¬ kd = 0 → cx_X (ck_sk T n S.1, nI (ck_sk T n S.1), kd, S.2.2.2) (cx_rf kd (nI (ck_sk T n S.1)) (cx_tw T n (ck_sk T n S.1) F)) := fun kd hk => cx_rf_X (F := cx_tw T n (ck_sk T n S.1) F) he.2.2.2.1 hk _ _
  unfold ck_par
  dsimp only
  generalize hwo : ck_wo_ T n (ck_sk T n S.1) = wo
  by_cases x0 : wo = 19118
  · subst x0
    rw [if_neg (show ¬ ck_isP 19118 = 0 by decide)]
    by_cases hm : p = 16
    · rw [if_pos hm]
      exact kx_Mn.ex (cq_n0 l G (P := Q) hw hT2 he.1 hn he.2.1 hle.2 (pa := p) (by omega) (hwo.trans kz_c0.symm) (by omega)) (cx_PD.f (Or.inl rfl) (ck_m1 _ (by omega)) (hx9 3 (by decide)))
    · rw [if_neg hm]
      exact cr_0 l G (P := Q) hw hT2 he.1 hn he.2.1 hle.2 (pa := p) (by omega) (by omega) hQ (R9 := ck_dsp T n 19118 (ck_ps T n (ck_sk T n S.1), -1, S.2.2) (p + 1) wc h t e) (hr9 _) (hwo.trans kz_c0.symm) (by
        unfold ck_dsp
        rw [if_pos rfl]
        exact cx_nm_0 hw hQ hn hle.2 rfl rfl (S := (ck_ps T n (ck_sk T n S.1), -1, S.2.2)) hps.2 hD2 (hwo.trans kz_c0.symm))
  by_cases x1 : wo = 67173
  · subst x1
    rw [if_neg (show ¬ ck_isP 67173 = 0 by decide)]
    by_cases hm : p = 16
    · rw [if_pos hm]
      exact kx_Mn.ex (cq_n1 l G (P := Q) hw hT2 he.1 hn he.2.1 hle.2 (pa := p) (by omega) (fun z => absurd ((hwo.symm.trans z).trans kz_c0) (by decide)) (hwo.trans kz_c1.symm) (by omega)) (cx_PD.f (Or.inl rfl) (ck_m1 _ (by omega)) (hx9 3 (by decide)))
    · rw [if_neg hm]
      exact cr_1 l G (P := Q) hw hT2 he.1 hn he.2.1 hle.2 (pa := p) (by omega) (by omega) hQ (R9 := ck_dsp T n 67173 (ck_ps T n (ck_sk T n S.1), -1, S.2.2) (p + 1) wc h t e) (hr9 _) (fun z => absurd ((hwo.symm.trans z).trans kz_c0) (by decide)) (hwo.trans kz_c1.symm) (by
        unfold ck_dsp
        rw [if_neg (by decide), if_pos rfl]
        exact cx_nm_1 hw hQ hn hle.2 rfl rfl (S := (ck_ps T n (ck_sk T n S.1), -1, S.2.2)) hps.2 hD2 (fun z => absurd ((hwo.symm.trans z).trans kz_c0) (by decide)) (hwo.trans kz_c1.symm))
  by_cases x2 : wo = 755277
  · subst x2
    rw [if_neg (show ¬ ck_isP 755277 = 0 by decide)]
    by_cases hm : p = 16
    · rw [if_pos hm]
      exact kx_Mn.ex (cq_n2 l G (P := Q) hw hT2 he.1 hn he.2.1 hle.2 (pa := p) (by omega) (fun z => absurd ((hwo.symm.trans z).trans kz_c0) (by decide)) (fun z => absurd ((hwo.symm.trans z).trans kz_c1) (by decide)) (hwo.trans kz_c2.symm) (by omega)) (cx_PD.f (Or.inl rfl) (ck_m1 _ (by omega)) (hx9 3 (by decide)))
    · rw [if_neg hm]
      exact cr_2 l G (P := Q) hw hT2 he.1 hn he.2.1 hle.2 (pa := p) (by omega) (by omega) hQ (R9 := ck_dsp T n 755277 (ck_ps T n (ck_sk T n S.1), -1, S.2.2) (p + 1) wc h t e) (hr9 _) (fun z => absurd ((hwo.symm.trans z).trans kz_c0) (by decide)) (fun z => absurd ((hwo.symm.trans z).trans kz_c1) (by decide)) (hwo.trans kz_c2.symm) (by
        unfold ck_dsp
        rw [if_neg (by decide), if_neg (by decide), if_pos rfl]
        exact cx_nm_2 hw hQ hn hle.2 rfl rfl (S := (ck_ps T n (ck_sk T n S.1), -1, S.2.2)) hps.2 hD2 (fun z => absurd ((hwo.symm.trans z).trans kz_c0) (by decide)) (fun z => absurd ((hwo.symm.trans z).trans kz_c1) (by decide)) (hwo.trans kz_c2.symm))
  by_cases x3 : wo = 758834
  · subst x3
    rw [if_neg (show ¬ ck_isP 758834 = 0 by decide)]
    by_cases hm : p = 16
    · rw [if_pos hm]
      exact kx_Mn.ex (cq_n3 l G (P := Q) hw hT2 he.1 hn he.2.1 hle.2 (pa := p) (by omega) (fun z => absurd ((hwo.symm.trans z).trans kz_c0) (by decide)) (fun z => absurd ((hwo.symm.trans z).trans kz_c1) (by decide)) (fun z => absurd ((hwo.symm.trans z).trans kz_c2) (by decide)) (hwo.trans kz_c3.symm) (by omega)) (cx_PD.f (Or.inl rfl) (ck_m1 _ (by omega)) (hx9 3 (by decide)))
    · rw [if_neg hm]
      exact cr_3 l G (P := Q) hw hT2 he.1 hn he.2.1 hle.2 (pa := p) (by omega) (by omega) hQ (R9 := ck_dsp T n 758834 (ck_ps T n (ck_sk T n S.1), -1, S.2.2) (p + 1) wc h t e) (hr9 _) (fun z => absurd ((hwo.symm.trans z).trans kz_c0) (by decide)) (fun z => absurd ((hwo.symm.trans z).trans kz_c1) (by decide)) (fun z => absurd ((hwo.symm.trans z).trans kz_c2) (by decide)) (hwo.trans kz_c3.symm) (by
        unfold ck_dsp
        rw [if_neg (by decide), if_neg (by decide), if_neg (by decide), if_pos rfl]
        exact cx_nm_3 hw hQ hn hle.2 rfl rfl (S := (ck_ps T n (ck_sk T n S.1), -1, S.2.2)) hps.2 hD2 (fun z => absurd ((hwo.symm.trans z).trans kz_c0) (by decide)) (fun z => absurd ((hwo.symm.trans z).trans kz_c1) (by decide)) (fun z => absurd ((hwo.symm.trans z).trans kz_c2) (by decide)) (hwo.trans kz_c3.symm))
  by_cases x4 : wo = 546188
  · subst x4
    rw [if_neg (show ¬ ck_isP 546188 = 0 by decide)]
    by_cases hm : p = 16
    · rw [if_pos hm]
      exact kx_Mn.ex (cq_n4 l G (P := Q) hw hT2 he.1 hn he.2.1 hle.2 (pa := p) (by omega) (fun z => absurd ((hwo.symm.trans z).trans kz_c0) (by decide)) (fun z => absurd ((hwo.symm.trans z).trans kz_c1) (by decide)) (fun z => absurd ((hwo.symm.trans z).trans kz_c2) (by decide)) (fun z => absurd ((hwo.symm.trans z).trans kz_c3) (by decide)) (hwo.trans kz_c4.symm) (by omega)) (cx_PD.f (Or.inl rfl) (ck_m1 _ (by omega)) (hx9 3 (by decide)))
    · rw [if_neg hm]
      exact cr_4 l G (P := Q) hw hT2 he.1 hn he.2.1 hle.2 (pa := p) (by omega) (by omega) hQ (R9 := ck_dsp T n 546188 (ck_ps T n (ck_sk T n S.1), -1, S.2.2) (p + 1) wc h t e) (hr9 _) (fun z => absurd ((hwo.symm.trans z).trans kz_c0) (by decide)) (fun z => absurd ((hwo.symm.trans z).trans kz_c1) (by decide)) (fun z => absurd ((hwo.symm.trans z).trans kz_c2) (by decide)) (fun z => absurd ((hwo.symm.trans z).trans kz_c3) (by decide)) (hwo.trans kz_c4.symm) (by
        unfold ck_dsp
        rw [if_neg (by decide), if_neg (by decide), if_neg (by decide), if_neg (by decide), if_pos rfl]
        exact cx_nm_4 hw hQ hn hle.2 rfl rfl (S := (ck_ps T n (ck_sk T n S.1), -1, S.2.2)) hps.2 hD2 (fun z => absurd ((hwo.symm.trans z).trans kz_c0) (by decide)) (fun z => absurd ((hwo.symm.trans z).trans kz_c1) (by decide)) (fun z => absurd ((hwo.symm.trans z).trans kz_c2) (by decide)) (fun z => absurd ((hwo.symm.trans z).trans kz_c3) (by decide)) (hwo.trans kz_c4.symm))
  by_cases x5 : wo = 16955865
  · subst x5
    rw [if_neg (show ¬ ck_isP 16955865 = 0 by decide)]
    by_cases hm : p = 16
    · rw [if_pos hm]
      exact kx_Mn.ex (cq_n5 l G (P := Q) hw hT2 he.1 hn he.2.1 hle.2 (pa := p) (by omega) (fun z => absurd ((hwo.symm.trans z).trans kz_c0) (by decide)) (fun z => absurd ((hwo.symm.trans z).trans kz_c1) (by decide)) (fun z => absurd ((hwo.symm.trans z).trans kz_c2) (by decide)) (fun z => absurd ((hwo.symm.trans z).trans kz_c3) (by decide)) (fun z => absurd ((hwo.symm.trans z).trans kz_c4) (by decide)) (hwo.trans kz_c5.symm) (by omega)) (cx_PD.f (Or.inl rfl) (ck_m1 _ (by omega)) (hx9 3 (by decide)))
    · rw [if_neg hm]
      exact cr_5 l G (P := Q) hw hT2 he.1 hn he.2.1 hle.2 (pa := p) (by omega) (by omega) hQ (R9 := ck_dsp T n 16955865 (ck_ps T n (ck_sk T n S.1), -1, S.2.2) (p + 1) wc h t e) (hr9 _) (fun z => absurd ((hwo.symm.trans z).trans kz_c0) (by decide)) (fun z => absurd ((hwo.symm.trans z).trans kz_c1) (by decide)) (fun z => absurd ((hwo.symm.trans z).trans kz_c2) (by decide)) (fun z => absurd ((hwo.symm.trans z).trans kz_c3) (by decide)) (fun z => absurd ((hwo.symm.trans z).trans kz_c4) (by decide)) (hwo.trans kz_c5.symm) (by
        unfold ck_dsp
        rw [if_neg (by decide), if_neg (by decide), if_neg (by decide), if_neg (by decide), if_neg (by decide), if_pos rfl]
        exact cx_nm_5 hw hQ hn hle.2 rfl rfl (S := (ck_ps T n (ck_sk T n S.1), -1, S.2.2)) hps.2 hD2 (fun z => absurd ((hwo.symm.trans z).trans kz_c0) (by decide)) (fun z => absurd ((hwo.symm.trans z).trans kz_c1) (by decide)) (fun z => absurd ((hwo.symm.trans z).trans kz_c2) (by decide)) (fun z => absurd ((hwo.symm.trans z).trans kz_c3) (by decide)) (fun z => absurd ((hwo.symm.trans z).trans kz_c4) (by decide)) (hwo.trans kz_c5.symm))
  by_cases x6 : wo = 21091560627
  · subst x6
    rw [if_neg (show ¬ ck_isP 21091560627 = 0 by decide)]
    by_cases hm : p = 16
    · rw [if_pos hm]
      exact kx_Mn.ex (cq_n6 l G (P := Q) hw hT2 he.1 hn he.2.1 hle.2 (pa := p) (by omega) (fun z => absurd ((hwo.symm.trans z).trans kz_c0) (by decide)) (fun z => absurd ((hwo.symm.trans z).trans kz_c1) (by decide)) (fun z => absurd ((hwo.symm.trans z).trans kz_c2) (by decide)) (fun z => absurd ((hwo.symm.trans z).trans kz_c3) (by decide)) (fun z => absurd ((hwo.symm.trans z).trans kz_c4) (by decide)) (fun z => absurd ((hwo.symm.trans z).trans kz_c5) (by decide)) (hwo.trans kz_c6.symm) (by omega)) (cx_PD.f (Or.inl rfl) (ck_m1 _ (by omega)) (hx9 3 (by decide)))
    · rw [if_neg hm]
      exact cr_6 l G (P := Q) hw hT2 he.1 hn he.2.1 hle.2 (pa := p) (by omega) (by omega) hQ (R9 := ck_dsp T n 21091560627 (ck_ps T n (ck_sk T n S.1), -1, S.2.2) (p + 1) wc h t e) (hr9 _) (fun z => absurd ((hwo.symm.trans z).trans kz_c0) (by decide)) (fun z => absurd ((hwo.symm.trans z).trans kz_c1) (by decide)) (fun z => absurd ((hwo.symm.trans z).trans kz_c2) (by decide)) (fun z => absurd ((hwo.symm.trans z).trans kz_c3) (by decide)) (fun z => absurd ((hwo.symm.trans z).trans kz_c4) (by decide)) (fun z => absurd ((hwo.symm.trans z).trans kz_c5) (by decide)) (hwo.trans kz_c6.symm) (by
        unfold ck_dsp
        rw [if_neg (by decide), if_neg (by decide), if_neg (by decide), if_neg (by decide), if_neg (by decide), if_neg (by decide), if_neg (by decide), if_pos rfl]
        exact cx_nm_6 hw hQ hn hle.2 rfl rfl (S := (ck_ps T n (ck_sk T n S.1), -1, S.2.2)) hps.2 hD2 (fun z => absurd ((hwo.symm.trans z).trans kz_c0) (by decide)) (fun z => absurd ((hwo.symm.trans z).trans kz_c1) (by decide)) (fun z => absurd ((hwo.symm.trans z).trans kz_c2) (by decide)) (fun z => absurd ((hwo.symm.trans z).trans kz_c3) (by decide)) (fun z => absurd ((hwo.symm.trans z).trans kz_c4) (by decide)) (fun z => absurd ((hwo.symm.trans z).trans kz_c5) (by decide)) (hwo.trans kz_c6.symm))
  by_cases x7 : wo = 19039336
  · subst x7
    rw [if_neg (show ¬ ck_isP 19039336 = 0 by decide)]
    by_cases hm : p = 16
    · rw [if_pos hm]
      exact kx_Mn.ex (cq_n7 l G (P := Q) hw hT2 he.1 hn he.2.1 hle.2 (pa := p) (by omega) (fun z => absurd ((hwo.symm.trans z).trans kz_c0) (by decide)) (fun z => absurd ((hwo.symm.trans z).trans kz_c1) (by decide)) (fun z => absurd ((hwo.symm.trans z).trans kz_c2) (by decide)) (fun z => absurd ((hwo.symm.trans z).trans kz_c3) (by decide)) (fun z => absurd ((hwo.symm.trans z).trans kz_c4) (by decide)) (fun z => absurd ((hwo.symm.trans z).trans kz_c5) (by decide)) (fun z => absurd ((hwo.symm.trans z).trans kz_c6) (by decide)) (hwo.trans kz_c7.symm) (by omega)) (cx_PD.f (Or.inl rfl) (ck_m1 _ (by omega)) (hx9 3 (by decide)))
    · rw [if_neg hm]
      exact cr_7 l G (P := Q) hw hT2 he.1 hn he.2.1 hle.2 (pa := p) (by omega) (by omega) hQ (R9 := ck_dsp T n 19039336 (ck_ps T n (ck_sk T n S.1), -1, S.2.2) (p + 1) wc h t e) (hr9 _) (fun z => absurd ((hwo.symm.trans z).trans kz_c0) (by decide)) (fun z => absurd ((hwo.symm.trans z).trans kz_c1) (by decide)) (fun z => absurd ((hwo.symm.trans z).trans kz_c2) (by decide)) (fun z => absurd ((hwo.symm.trans z).trans kz_c3) (by decide)) (fun z => absurd ((hwo.symm.trans z).trans kz_c4) (by decide)) (fun z => absurd ((hwo.symm.trans z).trans kz_c5) (by decide)) (fun z => absurd ((hwo.symm.trans z).trans kz_c6) (by decide)) (hwo.trans kz_c7.symm) (by
        unfold ck_dsp
        rw [if_neg (by decide), if_neg (by decide), if_neg (by decide), if_neg (by decide), if_neg (by decide), if_neg (by decide), if_neg (by decide), if_neg (by decide), if_neg (by decide), if_neg (by decide), if_neg (by decide)]
        exact cx_nm_7 hw hQ hn hle.2 rfl rfl (S := (ck_ps T n (ck_sk T n S.1), -1, S.2.2)) hps.2 hD2 (fun z => absurd ((hwo.symm.trans z).trans kz_c0) (by decide)) (fun z => absurd ((hwo.symm.trans z).trans kz_c1) (by decide)) (fun z => absurd ((hwo.symm.trans z).trans kz_c2) (by decide)) (fun z => absurd ((hwo.symm.trans z).trans kz_c3) (by decide)) (fun z => absurd ((hwo.symm.trans z).trans kz_c4) (by decide)) (fun z => absurd ((hwo.symm.trans z).trans kz_c5) (by decide)) (fun z => absurd ((hwo.symm.trans z).trans kz_c6) (by decide)))
  by_cases x8 : wo = 659105125
  · subst x8
    rw [if_neg (show ¬ ck_isP 659105125 = 0 by decide)]
    by_cases hm : p = 16
    · rw [if_pos hm]
      exact kx_Mn.ex (cq_m0 l G (P := Q) hw hT2 he.1 hn he.2.1 hle.2 (pa := p) (by omega) (fun z => absurd ((hwo.symm.trans z).trans kz_c0) (by decide)) (fun z => absurd ((hwo.symm.trans z).trans kz_c1) (by decide)) (fun z => absurd ((hwo.symm.trans z).trans kz_c2) (by decide)) (fun z => absurd ((hwo.symm.trans z).trans kz_c3) (by decide)) (fun z => absurd ((hwo.symm.trans z).trans kz_c4) (by decide)) (fun z => absurd ((hwo.symm.trans z).trans kz_c5) (by decide)) (fun z => absurd ((hwo.symm.trans z).trans kz_c6) (by decide)) (fun z => absurd ((hwo.symm.trans z).trans kz_c7) (by decide)) (hwo.trans kz_c8.symm) (by omega)) (cx_PD.f (Or.inl rfl) (ck_m1 _ (by omega)) (hx9 3 (by decide)))
    · rw [if_neg hm]
      exact cr_8 l G (P := Q) hw hT2 he.1 hn he.2.1 hle.2 (pa := p) (by omega) (by omega) hQ (R9 := ck_dsp T n 659105125 (ck_ps T n (ck_sk T n S.1), -1, S.2.2) (p + 1) wc h t e) (hr9 _) (fun z => absurd ((hwo.symm.trans z).trans kz_c0) (by decide)) (fun z => absurd ((hwo.symm.trans z).trans kz_c1) (by decide)) (fun z => absurd ((hwo.symm.trans z).trans kz_c2) (by decide)) (fun z => absurd ((hwo.symm.trans z).trans kz_c3) (by decide)) (fun z => absurd ((hwo.symm.trans z).trans kz_c4) (by decide)) (fun z => absurd ((hwo.symm.trans z).trans kz_c5) (by decide)) (fun z => absurd ((hwo.symm.trans z).trans kz_c6) (by decide)) (fun z => absurd ((hwo.symm.trans z).trans kz_c7) (by decide)) (hwo.trans kz_c8.symm) (by
        unfold ck_dsp
        rw [if_neg (by decide), if_neg (by decide), if_neg (by decide), if_neg (by decide), if_neg (by decide), if_neg (by decide), if_pos rfl]
        exact cx_stk hw hQ hn (S := (ck_ps T n (ck_sk T n S.1), -1, S.2.2)) hps.2 hD2)
  by_cases x9 : wo = 606717220435
  · subst x9
    rw [if_neg (show ¬ ck_isP 606717220435 = 0 by decide)]
    by_cases hm : p = 16
    · rw [if_pos hm]
      exact kx_Mn.ex (cq_m1 l G (P := Q) hw hT2 he.1 hn he.2.1 hle.2 (pa := p) (by omega) (fun z => absurd ((hwo.symm.trans z).trans kz_c0) (by decide)) (fun z => absurd ((hwo.symm.trans z).trans kz_c1) (by decide)) (fun z => absurd ((hwo.symm.trans z).trans kz_c2) (by decide)) (fun z => absurd ((hwo.symm.trans z).trans kz_c3) (by decide)) (fun z => absurd ((hwo.symm.trans z).trans kz_c4) (by decide)) (fun z => absurd ((hwo.symm.trans z).trans kz_c5) (by decide)) (fun z => absurd ((hwo.symm.trans z).trans kz_c6) (by decide)) (fun z => absurd ((hwo.symm.trans z).trans kz_c7) (by decide)) (fun z => absurd ((hwo.symm.trans z).trans kz_c8) (by decide)) (hwo.trans kz_c9.symm) (by omega)) (cx_PD.f (Or.inl rfl) (ck_m1 _ (by omega)) (hx9 3 (by decide)))
    · rw [if_neg hm]
      exact cr_9 l G (P := Q) hw hT2 he.1 hn he.2.1 hle.2 (pa := p) (by omega) (by omega) hQ (R9 := ck_dsp T n 606717220435 (ck_ps T n (ck_sk T n S.1), -1, S.2.2) (p + 1) wc h t e) (hr9 _) (fun z => absurd ((hwo.symm.trans z).trans kz_c0) (by decide)) (fun z => absurd ((hwo.symm.trans z).trans kz_c1) (by decide)) (fun z => absurd ((hwo.symm.trans z).trans kz_c2) (by decide)) (fun z => absurd ((hwo.symm.trans z).trans kz_c3) (by decide)) (fun z => absurd ((hwo.symm.trans z).trans kz_c4) (by decide)) (fun z => absurd ((hwo.symm.trans z).trans kz_c5) (by decide)) (fun z => absurd ((hwo.symm.trans z).trans kz_c6) (by decide)) (fun z => absurd ((hwo.symm.trans z).trans kz_c7) (by decide)) (fun z => absurd ((hwo.symm.trans z).trans kz_c8) (by decide)) (hwo.trans kz_c9.symm) (by
        unfold ck_dsp
        rw [if_neg (by decide), if_neg (by decide), if_neg (by decide), if_neg (by decide), if_neg (by decide), if_neg (by decide), if_neg (by decide), if_neg (by decide), if_pos rfl]
        exact ct_X8_readQuarters l G (P := Q) hw hQ hn (S := (ck_ps T n (ck_sk T n S.1), -1, S.2.2)) rfl hps.2 hD2 (m := 4) rfl)
  by_cases x10 : wo = 647370196
  · subst x10
    rw [if_neg (show ¬ ck_isP 647370196 = 0 by decide)]
    by_cases hm : p = 16
    · rw [if_pos hm]
      exact kx_Mn.ex (cq_m2 l G (P := Q) hw hT2 he.1 hn he.2.1 hle.2 (pa := p) (by omega) (fun z => absurd ((hwo.symm.trans z).trans kz_c0) (by decide)) (fun z => absurd ((hwo.symm.trans z).trans kz_c1) (by decide)) (fun z => absurd ((hwo.symm.trans z).trans kz_c2) (by decide)) (fun z => absurd ((hwo.symm.trans z).trans kz_c3) (by decide)) (fun z => absurd ((hwo.symm.trans z).trans kz_c4) (by decide)) (fun z => absurd ((hwo.symm.trans z).trans kz_c5) (by decide)) (fun z => absurd ((hwo.symm.trans z).trans kz_c6) (by decide)) (fun z => absurd ((hwo.symm.trans z).trans kz_c7) (by decide)) (fun z => absurd ((hwo.symm.trans z).trans kz_c8) (by decide)) (fun z => absurd ((hwo.symm.trans z).trans kz_c9) (by decide)) (hwo.trans kz_c10.symm) (by omega)) (cx_PD.f (Or.inl rfl) (ck_m1 _ (by omega)) (hx9 3 (by decide)))
    · rw [if_neg hm]
      exact cr_10 l G (P := Q) hw hT2 he.1 hn he.2.1 hle.2 (pa := p) (by omega) (by omega) hQ (R9 := ck_dsp T n 647370196 (ck_ps T n (ck_sk T n S.1), -1, S.2.2) (p + 1) wc h t e) (hr9 _) (fun z => absurd ((hwo.symm.trans z).trans kz_c0) (by decide)) (fun z => absurd ((hwo.symm.trans z).trans kz_c1) (by decide)) (fun z => absurd ((hwo.symm.trans z).trans kz_c2) (by decide)) (fun z => absurd ((hwo.symm.trans z).trans kz_c3) (by decide)) (fun z => absurd ((hwo.symm.trans z).trans kz_c4) (by decide)) (fun z => absurd ((hwo.symm.trans z).trans kz_c5) (by decide)) (fun z => absurd ((hwo.symm.trans z).trans kz_c6) (by decide)) (fun z => absurd ((hwo.symm.trans z).trans kz_c7) (by decide)) (fun z => absurd ((hwo.symm.trans z).trans kz_c8) (by decide)) (fun z => absurd ((hwo.symm.trans z).trans kz_c9) (by decide)) (hwo.trans kz_c10.symm) (by
        unfold ck_dsp
        rw [if_neg (by decide), if_neg (by decide), if_neg (by decide), if_neg (by decide), if_neg (by decide), if_neg (by decide), if_neg (by decide), if_neg (by decide), if_neg (by decide), if_pos rfl]
        exact cx_sil hw hQ hn (S := (ck_ps T n (ck_sk T n S.1), -1, S.2.2)) hps.2 hD2)
  by_cases x11 : wo = 104561315890
  · subst x11
    rw [if_neg (show ¬ ck_isP 104561315890 = 0 by decide)]
    by_cases hm : p = 16
    · rw [if_pos hm]
      exact kx_Mn.ex (cq_m3 l G (P := Q) hw hT2 he.1 hn he.2.1 hle.2 (pa := p) (by omega) (fun z => absurd ((hwo.symm.trans z).trans kz_c0) (by decide)) (fun z => absurd ((hwo.symm.trans z).trans kz_c1) (by decide)) (fun z => absurd ((hwo.symm.trans z).trans kz_c2) (by decide)) (fun z => absurd ((hwo.symm.trans z).trans kz_c3) (by decide)) (fun z => absurd ((hwo.symm.trans z).trans kz_c4) (by decide)) (fun z => absurd ((hwo.symm.trans z).trans kz_c5) (by decide)) (fun z => absurd ((hwo.symm.trans z).trans kz_c6) (by decide)) (fun z => absurd ((hwo.symm.trans z).trans kz_c7) (by decide)) (fun z => absurd ((hwo.symm.trans z).trans kz_c8) (by decide)) (fun z => absurd ((hwo.symm.trans z).trans kz_c9) (by decide)) (fun z => absurd ((hwo.symm.trans z).trans kz_c10) (by decide)) (hwo.trans kz_c11.symm) (by omega)) (cx_PD.f (Or.inl rfl) (ck_m1 _ (by omega)) (hx9 3 (by decide)))
    · rw [if_neg hm]
      exact cr_11 l G (P := Q) hw hT2 he.1 hn he.2.1 hle.2 (pa := p) (by omega) (by omega) hQ (R9 := ck_dsp T n 104561315890 (ck_ps T n (ck_sk T n S.1), -1, S.2.2) (p + 1) wc h t e) (hr9 _) (fun z => absurd ((hwo.symm.trans z).trans kz_c0) (by decide)) (fun z => absurd ((hwo.symm.trans z).trans kz_c1) (by decide)) (fun z => absurd ((hwo.symm.trans z).trans kz_c2) (by decide)) (fun z => absurd ((hwo.symm.trans z).trans kz_c3) (by decide)) (fun z => absurd ((hwo.symm.trans z).trans kz_c4) (by decide)) (fun z => absurd ((hwo.symm.trans z).trans kz_c5) (by decide)) (fun z => absurd ((hwo.symm.trans z).trans kz_c6) (by decide)) (fun z => absurd ((hwo.symm.trans z).trans kz_c7) (by decide)) (fun z => absurd ((hwo.symm.trans z).trans kz_c8) (by decide)) (fun z => absurd ((hwo.symm.trans z).trans kz_c9) (by decide)) (fun z => absurd ((hwo.symm.trans z).trans kz_c10) (by decide)) (hwo.trans kz_c11.symm) (by
        unfold ck_dsp
        rw [if_neg (by decide), if_neg (by decide), if_neg (by decide), if_neg (by decide), if_neg (by decide), if_neg (by decide), if_neg (by decide), if_neg (by decide), if_neg (by decide), if_neg (by decide), if_pos rfl]
        exact cx_cal hw hQ hn (S := (ck_ps T n (ck_sk T n S.1), -1, S.2.2)) hps.2 hD2)
  have h0 : ck_isP wo = 0 := by
    unfold ck_isP
    simp only [if_neg x0, if_neg x1, if_neg x2, if_neg x3, if_neg x4, if_neg x5, if_neg x6, if_neg x7, if_neg x8, if_neg x9, if_neg x10, if_neg x11]
  rw [if_pos h0]
  exact kx_Mn.ex (cq_no l G (P := Q) hw hT2 he.1 hn he.2.1 hle.2 (pa := p) (by omega) (fun z => x0 (hwo.symm.trans (z.trans kz_c0))) (fun z => x1 (hwo.symm.trans (z.trans kz_c1))) (fun z => x2 (hwo.symm.trans (z.trans kz_c2))) (fun z => x3 (hwo.symm.trans (z.trans kz_c3))) (fun z => x4 (hwo.symm.trans (z.trans kz_c4))) (fun z => x5 (hwo.symm.trans (z.trans kz_c5))) (fun z => x6 (hwo.symm.trans (z.trans kz_c6))) (fun z => x7 (hwo.symm.trans (z.trans kz_c7))) (fun z => x8 (hwo.symm.trans (z.trans kz_c8))) (fun z => x9 (hwo.symm.trans (z.trans kz_c9))) (fun z => x10 (hwo.symm.trans (z.trans kz_c10))) (fun z => x11 (hwo.symm.trans (z.trans kz_c11)))) (cx_PD.f (Or.inl rfl) (ck_m1 _ (by omega)) (hx9 1 (by decide)))

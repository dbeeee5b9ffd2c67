theorem cx_nm_0 {l : Launch} {G : kx_G} {Q : kx_P} {w : Nat} {sz : Nat} {T F V te qu Fo st : Nat → Int32} {n : Nat} {S : ck_R} {p wc : Nat} {h : Int32} {t e : Nat → Int32} (hw : 144 ≤ w) (hQ : Q 67 = kI 0 400 T) (hn : n ≤ 400) {b : Nat} (hb : b ≤ n) (h6 : F 6 = nI b) (h7 : F 7 = nI (ck_ps T n b)) (ha : S.1 ≤ n) (hD : cx_D T n (S, p, wc, h, t, e) F V te qu Fo st) (w0 : ck_wo_ T n b = kz_co 0) : kx_Mn l G sX8_readNumbered 6 0 0 [.ref 68] (cx_8 (cx_fW (cx_vW Q w V te qu) w Fo st) (.ref w) F) sz (cx_PD Q w T n (((ck_num T n 1 31 S.1 (-1) S.2.2.1).2.1, (ck_num T n 1 31 S.1 (-1) S.2.2.1).2.2.1, (ck_num T n 1 31 S.1 (-1) S.2.2.1).2.2.2, S.2.2.2), p, wc, h, upd t 0 (ck_num T n 1 31 S.1 (-1) S.2.2.1).1, e) sz cx_rn) := by
  obtain ⟨he, hv, hth⟩ := hD
  have hv : cx_V t V qu := hv
  have hth : cx_Th h wc e V te := hth
  have hT2 : cx_fW (cx_vW Q w V te qu) w Fo st 67 = kI 0 400 T := (cx_f67 hw).trans ((cx_v67 hw).trans hQ)
  obtain ⟨v, F2, hM, ht, hf⟩ := cx_nu (l := l) (G := G) (sz := sz) (x := .ref w) hT2 (F := F) (n := n) (a := S.1) he.1 hn he.2.1 ha he.2.2.2.1 (lo := 1) (hi := 31) (by omega) S.2.2.1
  have ht : (ck_num T n 1 31 S.1 (-1) S.2.2.1).2.2.1 = -1 → v = (ck_num T n 1 31 S.1 (-1) S.2.2.1).1 ∧ F2 1 = nI n ∧ F2 2 = nI (ck_sk T n (ck_num T n 1 31 S.1 (-1) S.2.2.1).2.1) ∧ F2 3 = F 3 ∧ F2 4 = 0 ∧ F2 5 = F 5 ∧ F2 8 = nI (ck_sk T n S.1) := ht
  have hf : ¬ (ck_num T n 1 31 S.1 (-1) S.2.2.1).2.2.1 = -1 → F2 4 = (ck_num T n 1 31 S.1 (-1) S.2.2.1).2.2.2 ∧ F2 5 = (ck_num T n 1 31 S.1 (-1) S.2.2.1).2.2.1 ∧ ¬ F2 4 = 0 := hf
  refine kx_Mn.ex (cn_0 l G (P := Q) hw hT2 h6 h7 hb hn w0 hM) ?_
  generalize (ck_num T n 1 31 S.1 (-1) S.2.2.1) = rr at ht hf ⊢
  by_cases hg : rr.2.2.1 = -1
  · obtain ⟨rfl, e1, e2, e3, e4, e5, -⟩ := ht hg
    exact cx_PD.t rfl hg ⟨⟨e1, e2, e3.trans he.2.2.1, e4, e5.trans he.2.2.2.2.1, he.2.2.2.2.2.1, he.2.2.2.2.2.2⟩, hv.u (kt := 0) (kv := 0) _ (by decide), hth.u _ (by decide)⟩
  · obtain ⟨x4, x5, x6⟩ := hf hg
    exact cx_PD.f rfl hg ⟨x4, x5, fun z => x6 (x4.trans z)⟩
theorem cx_nm_1 {l : Launch} {G : kx_G} {Q : kx_P} {w : Nat} {sz : Nat} {T F V te qu Fo st : Nat → Int32} {n : Nat} {S : ck_R} {p wc : Nat} {h : Int32} {t e : Nat → Int32} (hw : 144 ≤ w) (hQ : Q 67 = kI 0 400 T) (hn : n ≤ 400) {b : Nat} (hb : b ≤ n) (h6 : F 6 = nI b) (h7 : F 7 = nI (ck_ps T n b)) (ha : S.1 ≤ n) (hD : cx_D T n (S, p, wc, h, t, e) F V te qu Fo st) (w0 : ¬ ck_wo_ T n b = kz_co 0) (w1 : ck_wo_ T n b = kz_co 1) : kx_Mn l G sX8_readNumbered 6 0 0 [.ref 68] (cx_8 (cx_fW (cx_vW Q w V te qu) w Fo st) (.ref w) F) sz (cx_PD Q w T n (((ck_sgn T n S.1 (-1) S.2.2.1).2.1, (ck_sgn T n S.1 (-1) S.2.2.1).2.2.1, (ck_sgn T n S.1 (-1) S.2.2.1).2.2.2, S.2.2.2), p, wc, h, upd t 1 (ck_sgn T n S.1 (-1) S.2.2.1).1, e) sz cx_rn) := by
  obtain ⟨he, hv, hth⟩ := hD
  have hv : cx_V t V qu := hv
  have hth : cx_Th h wc e V te := hth
  have hT2 : cx_fW (cx_vW Q w V te qu) w Fo st 67 = kI 0 400 T := (cx_f67 hw).trans ((cx_v67 hw).trans hQ)
  obtain ⟨v, F2, hM, ht, hf⟩ := cx_sg (l := l) (G := G) (sz := sz) (x := .ref w) hT2 (F := F) (n := n) (a := S.1) he.1 hn he.2.1 ha he.2.2.2.1 S.2.2.1
  have ht : (ck_sgn T n S.1 (-1) S.2.2.1).2.2.1 = -1 → v = (ck_sgn T n S.1 (-1) S.2.2.1).1 ∧ F2 1 = nI n ∧ F2 2 = nI (ck_sk T n (ck_sgn T n S.1 (-1) S.2.2.1).2.1) ∧ F2 3 = F 3 ∧ F2 4 = 0 ∧ F2 5 = F 5 := ht
  have hf : ¬ (ck_sgn T n S.1 (-1) S.2.2.1).2.2.1 = -1 → F2 4 = (ck_sgn T n S.1 (-1) S.2.2.1).2.2.2 ∧ F2 5 = (ck_sgn T n S.1 (-1) S.2.2.1).2.2.1 ∧ ¬ F2 4 = 0 := hf
  refine kx_Mn.ex (cn_1 l G (P := Q) hw hT2 h6 h7 hb hn w0 w1 hM) ?_
  generalize (ck_sgn T n S.1 (-1) S.2.2.1) = rr at ht hf ⊢
  by_cases hg : rr.2.2.1 = -1
  · obtain ⟨rfl, e1, e2, e3, e4, e5⟩ := ht hg
    exact cx_PD.t rfl hg ⟨⟨e1, e2, e3.trans he.2.2.1, e4, e5.trans he.2.2.2.2.1, he.2.2.2.2.2.1, he.2.2.2.2.2.2⟩, hv.u (kt := 1) (kv := 1) _ (by decide), hth.u _ (by decide)⟩
  · obtain ⟨x4, x5, x6⟩ := hf hg
    exact cx_PD.f rfl hg ⟨x4, x5, fun z => x6 (x4.trans z)⟩
theorem cx_nm_2 {l : Launch} {G : kx_G} {Q : kx_P} {w : Nat} {sz : Nat} {T F V te qu Fo st : Nat → Int32} {n : Nat} {S : ck_R} {p wc : Nat} {h : Int32} {t e : Nat → Int32} (hw : 144 ≤ w) (hQ : Q 67 = kI 0 400 T) (hn : n ≤ 400) {b : Nat} (hb : b ≤ n) (h6 : F 6 = nI b) (h7 : F 7 = nI (ck_ps T n b)) (ha : S.1 ≤ n) (hD : cx_D T n (S, p, wc, h, t, e) F V te qu Fo st) (w0 : ¬ ck_wo_ T n b = kz_co 0) (w1 : ¬ ck_wo_ T n b = kz_co 1) (w2 : ck_wo_ T n b = kz_co 2) : kx_Mn l G sX8_readNumbered 6 0 0 [.ref 68] (cx_8 (cx_fW (cx_vW Q w V te qu) w Fo st) (.ref w) F) sz (cx_PD Q w T n (((ck_sgn T n S.1 (-1) S.2.2.1).2.1, (ck_sgn T n S.1 (-1) S.2.2.1).2.2.1, (ck_sgn T n S.1 (-1) S.2.2.1).2.2.2, S.2.2.2), p, wc, h, upd t 2 (ck_sgn T n S.1 (-1) S.2.2.1).1, e) sz cx_rn) := by
  obtain ⟨he, hv, hth⟩ := hD
  have hv : cx_V t V qu := hv
  have hth : cx_Th h wc e V te := hth
  have hT2 : cx_fW (cx_vW Q w V te qu) w Fo st 67 = kI 0 400 T := (cx_f67 hw).trans ((cx_v67 hw).trans hQ)
  obtain ⟨v, F2, hM, ht, hf⟩ := cx_sg (l := l) (G := G) (sz := sz) (x := .ref w) hT2 (F := F) (n := n) (a := S.1) he.1 hn he.2.1 ha he.2.2.2.1 S.2.2.1
  have ht : (ck_sgn T n S.1 (-1) S.2.2.1).2.2.1 = -1 → v = (ck_sgn T n S.1 (-1) S.2.2.1).1 ∧ F2 1 = nI n ∧ F2 2 = nI (ck_sk T n (ck_sgn T n S.1 (-1) S.2.2.1).2.1) ∧ F2 3 = F 3 ∧ F2 4 = 0 ∧ F2 5 = F 5 := ht
  have hf : ¬ (ck_sgn T n S.1 (-1) S.2.2.1).2.2.1 = -1 → F2 4 = (ck_sgn T n S.1 (-1) S.2.2.1).2.2.2 ∧ F2 5 = (ck_sgn T n S.1 (-1) S.2.2.1).2.2.1 ∧ ¬ F2 4 = 0 := hf
  refine kx_Mn.ex (cn_2 l G (P := Q) hw hT2 h6 h7 hb hn w0 w1 w2 hM) ?_
  generalize (ck_sgn T n S.1 (-1) S.2.2.1) = rr at ht hf ⊢
  by_cases hg : rr.2.2.1 = -1
  · obtain ⟨rfl, e1, e2, e3, e4, e5⟩ := ht hg
    exact cx_PD.t rfl hg ⟨⟨e1, e2, e3.trans he.2.2.1, e4, e5.trans he.2.2.2.2.1, he.2.2.2.2.2.1, he.2.2.2.2.2.2⟩, hv.u (kt := 2) (kv := 2) _ (by decide), hth.u _ (by decide)⟩
  · obtain ⟨x4, x5, x6⟩ := hf hg
    exact cx_PD.f rfl hg ⟨x4, x5, fun z => x6 (x4.trans z)⟩
theorem cx_nm_3 {l : Launch} {G : kx_G} {Q : kx_P} {w : Nat} {sz : Nat} {T F V te qu Fo st : Nat → Int32} {n : Nat} {S : ck_R} {p wc : Nat} {h : Int32} {t e : Nat → Int32} (hw : 144 ≤ w) (hQ : Q 67 = kI 0 400 T) (hn : n ≤ 400) {b : Nat} (hb : b ≤ n) (h6 : F 6 = nI b) (h7 : F 7 = nI (ck_ps T n b)) (ha : S.1 ≤ n) (hD : cx_D T n (S, p, wc, h, t, e) F V te qu Fo st) (w0 : ¬ ck_wo_ T n b = kz_co 0) (w1 : ¬ ck_wo_ T n b = kz_co 1) (w2 : ¬ ck_wo_ T n b = kz_co 2) (w3 : ck_wo_ T n b = kz_co 3) : kx_Mn l G sX8_readNumbered 6 0 0 [.ref 68] (cx_8 (cx_fW (cx_vW Q w V te qu) w Fo st) (.ref w) F) sz (cx_PD Q w T n (((ck_num T n 0 500 S.1 (-1) S.2.2.1).2.1, (ck_num T n 0 500 S.1 (-1) S.2.2.1).2.2.1, (ck_num T n 0 500 S.1 (-1) S.2.2.1).2.2.2, S.2.2.2), p, wc, h, upd t 3 (ck_num T n 0 500 S.1 (-1) S.2.2.1).1, e) sz cx_rn) := by
  obtain ⟨he, hv, hth⟩ := hD
  have hv : cx_V t V qu := hv
  have hth : cx_Th h wc e V te := hth
  have hT2 : cx_fW (cx_vW Q w V te qu) w Fo st 67 = kI 0 400 T := (cx_f67 hw).trans ((cx_v67 hw).trans hQ)
  obtain ⟨v, F2, hM, ht, hf⟩ := cx_nu (l := l) (G := G) (sz := sz) (x := .ref w) hT2 (F := F) (n := n) (a := S.1) he.1 hn he.2.1 ha he.2.2.2.1 (lo := 0) (hi := 500) (by omega) S.2.2.1
  have ht : (ck_num T n 0 500 S.1 (-1) S.2.2.1).2.2.1 = -1 → v = (ck_num T n 0 500 S.1 (-1) S.2.2.1).1 ∧ F2 1 = nI n ∧ F2 2 = nI (ck_sk T n (ck_num T n 0 500 S.1 (-1) S.2.2.1).2.1) ∧ F2 3 = F 3 ∧ F2 4 = 0 ∧ F2 5 = F 5 ∧ F2 8 = nI (ck_sk T n S.1) := ht
  have hf : ¬ (ck_num T n 0 500 S.1 (-1) S.2.2.1).2.2.1 = -1 → F2 4 = (ck_num T n 0 500 S.1 (-1) S.2.2.1).2.2.2 ∧ F2 5 = (ck_num T n 0 500 S.1 (-1) S.2.2.1).2.2.1 ∧ ¬ F2 4 = 0 := hf
  refine kx_Mn.ex (cn_3 l G (P := Q) hw hT2 h6 h7 hb hn w0 w1 w2 w3 hM) ?_
  generalize (ck_num T n 0 500 S.1 (-1) S.2.2.1) = rr at ht hf ⊢
  by_cases hg : rr.2.2.1 = -1
  · obtain ⟨rfl, e1, e2, e3, e4, e5, -⟩ := ht hg
    exact cx_PD.t rfl hg ⟨⟨e1, e2, e3.trans he.2.2.1, e4, e5.trans he.2.2.2.2.1, he.2.2.2.2.2.1, he.2.2.2.2.2.2⟩, hv.u (kt := 3) (kv := 3) _ (by decide), hth.u _ (by decide)⟩
  · obtain ⟨x4, x5, x6⟩ := hf hg
    exact cx_PD.f rfl hg ⟨x4, x5, fun z => x6 (x4.trans z)⟩
theorem cx_nm_4 {l : Launch} {G : kx_G} {Q : kx_P} {w : Nat} {sz : Nat} {T F V te qu Fo st : Nat → Int32} {n : Nat} {S : ck_R} {p wc : Nat} {h : Int32} {t e : Nat → Int32} (hw : 144 ≤ w) (hQ : Q 67 = kI 0 400 T) (hn : n ≤ 400) {b : Nat} (hb : b ≤ n) (h6 : F 6 = nI b) (h7 : F 7 = nI (ck_ps T n b)) (ha : S.1 ≤ n) (hD : cx_D T n (S, p, wc, h, t, e) F V te qu Fo st) (w0 : ¬ ck_wo_ T n b = kz_co 0) (w1 : ¬ ck_wo_ T n b = kz_co 1) (w2 : ¬ ck_wo_ T n b = kz_co 2) (w3 : ¬ ck_wo_ T n b = kz_co 3) (w4 : ck_wo_ T n b = kz_co 4) : kx_Mn l G sX8_readNumbered 6 0 0 [.ref 68] (cx_8 (cx_fW (cx_vW Q w V te qu) w Fo st) (.ref w) F) sz (cx_PD Q w T n (((ck_num T n 0 500 S.1 (-1) S.2.2.1).2.1, (ck_num T n 0 500 S.1 (-1) S.2.2.1).2.2.1, (ck_num T n 0 500 S.1 (-1) S.2.2.1).2.2.2, S.2.2.2), p, wc, h, upd t 4 (ck_num T n 0 500 S.1 (-1) S.2.2.1).1, e) sz cx_rn) := by
  obtain ⟨he, hv, hth⟩ := hD
  have hv : cx_V t V qu := hv
  have hth : cx_Th h wc e V te := hth
  have hT2 : cx_fW (cx_vW Q w V te qu) w Fo st 67 = kI 0 400 T := (cx_f67 hw).trans ((cx_v67 hw).trans hQ)
  obtain ⟨v, F2, hM, ht, hf⟩ := cx_nu (l := l) (G := G) (sz := sz) (x := .ref w) hT2 (F := F) (n := n) (a := S.1) he.1 hn he.2.1 ha he.2.2.2.1 (lo := 0) (hi := 500) (by omega) S.2.2.1
  have ht : (ck_num T n 0 500 S.1 (-1) S.2.2.1).2.2.1 = -1 → v = (ck_num T n 0 500 S.1 (-1) S.2.2.1).1 ∧ F2 1 = nI n ∧ F2 2 = nI (ck_sk T n (ck_num T n 0 500 S.1 (-1) S.2.2.1).2.1) ∧ F2 3 = F 3 ∧ F2 4 = 0 ∧ F2 5 = F 5 ∧ F2 8 = nI (ck_sk T n S.1) := ht
  have hf : ¬ (ck_num T n 0 500 S.1 (-1) S.2.2.1).2.2.1 = -1 → F2 4 = (ck_num T n 0 500 S.1 (-1) S.2.2.1).2.2.2 ∧ F2 5 = (ck_num T n 0 500 S.1 (-1) S.2.2.1).2.2.1 ∧ ¬ F2 4 = 0 := hf
  refine kx_Mn.ex (cn_4 l G (P := Q) hw hT2 h6 h7 hb hn w0 w1 w2 w3 w4 hM) ?_
  generalize (ck_num T n 0 500 S.1 (-1) S.2.2.1) = rr at ht hf ⊢
  by_cases hg : rr.2.2.1 = -1
  · obtain ⟨rfl, e1, e2, e3, e4, e5, -⟩ := ht hg
    exact cx_PD.t rfl hg ⟨⟨e1, e2, e3.trans he.2.2.1, e4, e5.trans he.2.2.2.2.1, he.2.2.2.2.2.1, he.2.2.2.2.2.2⟩, hv.u (kt := 4) (kv := 4) _ (by decide), hth.u _ (by decide)⟩
  · obtain ⟨x4, x5, x6⟩ := hf hg
    exact cx_PD.f rfl hg ⟨x4, x5, fun z => x6 (x4.trans z)⟩
theorem cx_nm_5 {l : Launch} {G : kx_G} {Q : kx_P} {w : Nat} {sz : Nat} {T F V te qu Fo st : Nat → Int32} {n : Nat} {S : ck_R} {p wc : Nat} {h : Int32} {t e : Nat → Int32} (hw : 144 ≤ w) (hQ : Q 67 = kI 0 400 T) (hn : n ≤ 400) {b : Nat} (hb : b ≤ n) (h6 : F 6 = nI b) (h7 : F 7 = nI (ck_ps T n b)) (ha : S.1 ≤ n) (hD : cx_D T n (S, p, wc, h, t, e) F V te qu Fo st) (w0 : ¬ ck_wo_ T n b = kz_co 0) (w1 : ¬ ck_wo_ T n b = kz_co 1) (w2 : ¬ ck_wo_ T n b = kz_co 2) (w3 : ¬ ck_wo_ T n b = kz_co 3) (w4 : ¬ ck_wo_ T n b = kz_co 4) (w5 : ck_wo_ T n b = kz_co 5) : kx_Mn l G sX8_readNumbered 6 0 0 [.ref 68] (cx_8 (cx_fW (cx_vW Q w V te qu) w Fo st) (.ref w) F) sz (cx_PD Q w T n (((ck_num T n 0 50 S.1 (-1) S.2.2.1).2.1, (ck_num T n 0 50 S.1 (-1) S.2.2.1).2.2.1, (ck_num T n 0 50 S.1 (-1) S.2.2.1).2.2.2, S.2.2.2), p, wc, h, upd t 15 (ck_num T n 0 50 S.1 (-1) S.2.2.1).1, e) sz cx_rn) := by
  obtain ⟨he, hv, hth⟩ := hD
  have hv : cx_V t V qu := hv
  have hth : cx_Th h wc e V te := hth
  have hT2 : cx_fW (cx_vW Q w V te qu) w Fo st 67 = kI 0 400 T := (cx_f67 hw).trans ((cx_v67 hw).trans hQ)
  obtain ⟨v, F2, hM, ht, hf⟩ := cx_nu (l := l) (G := G) (sz := sz) (x := .ref w) hT2 (F := F) (n := n) (a := S.1) he.1 hn he.2.1 ha he.2.2.2.1 (lo := 0) (hi := 50) (by omega) S.2.2.1
  have ht : (ck_num T n 0 50 S.1 (-1) S.2.2.1).2.2.1 = -1 → v = (ck_num T n 0 50 S.1 (-1) S.2.2.1).1 ∧ F2 1 = nI n ∧ F2 2 = nI (ck_sk T n (ck_num T n 0 50 S.1 (-1) S.2.2.1).2.1) ∧ F2 3 = F 3 ∧ F2 4 = 0 ∧ F2 5 = F 5 ∧ F2 8 = nI (ck_sk T n S.1) := ht
  have hf : ¬ (ck_num T n 0 50 S.1 (-1) S.2.2.1).2.2.1 = -1 → F2 4 = (ck_num T n 0 50 S.1 (-1) S.2.2.1).2.2.2 ∧ F2 5 = (ck_num T n 0 50 S.1 (-1) S.2.2.1).2.2.1 ∧ ¬ F2 4 = 0 := hf
  refine kx_Mn.ex (cn_5 l G (P := Q) hw hT2 h6 h7 hb hn w0 w1 w2 w3 w4 w5 hM) ?_
  generalize (ck_num T n 0 50 S.1 (-1) S.2.2.1) = rr at ht hf ⊢
  by_cases hg : rr.2.2.1 = -1
  · obtain ⟨rfl, e1, e2, e3, e4, e5, -⟩ := ht hg
    exact cx_PD.t rfl hg ⟨⟨e1, e2, e3.trans he.2.2.1, e4, e5.trans he.2.2.2.2.1, he.2.2.2.2.2.1, he.2.2.2.2.2.2⟩, hv.u (kt := 15) (kv := 5) _ (by decide), hth.u _ (by decide)⟩
  · obtain ⟨x4, x5, x6⟩ := hf hg
    exact cx_PD.f rfl hg ⟨x4, x5, fun z => x6 (x4.trans z)⟩
theorem cx_nm_6 {l : Launch} {G : kx_G} {Q : kx_P} {w : Nat} {sz : Nat} {T F V te qu Fo st : Nat → Int32} {n : Nat} {S : ck_R} {p wc : Nat} {h : Int32} {t e : Nat → Int32} (hw : 144 ≤ w) (hQ : Q 67 = kI 0 400 T) (hn : n ≤ 400) {b : Nat} (hb : b ≤ n) (h6 : F 6 = nI b) (h7 : F 7 = nI (ck_ps T n b)) (ha : S.1 ≤ n) (hD : cx_D T n (S, p, wc, h, t, e) F V te qu Fo st) (w0 : ¬ ck_wo_ T n b = kz_co 0) (w1 : ¬ ck_wo_ T n b = kz_co 1) (w2 : ¬ ck_wo_ T n b = kz_co 2) (w3 : ¬ ck_wo_ T n b = kz_co 3) (w4 : ¬ ck_wo_ T n b = kz_co 4) (w5 : ¬ ck_wo_ T n b = kz_co 5) (w6 : ck_wo_ T n b = kz_co 6) : kx_Mn l G sX8_readNumbered 6 0 0 [.ref 68] (cx_8 (cx_fW (cx_vW Q w V te qu) w Fo st) (.ref w) F) sz (cx_PD Q w T n (((ck_num T n 1 2000 S.1 (-1) S.2.2.1).2.1, (ck_num T n 1 2000 S.1 (-1) S.2.2.1).2.2.1, (ck_num T n 1 2000 S.1 (-1) S.2.2.1).2.2.2, S.2.2.2), p, wc, h, upd t 5 (ck_num T n 1 2000 S.1 (-1) S.2.2.1).1, e) sz cx_rn) := by
  obtain ⟨he, hv, hth⟩ := hD
  have hv : cx_V t V qu := hv
  have hth : cx_Th h wc e V te := hth
  have hT2 : cx_fW (cx_vW Q w V te qu) w Fo st 67 = kI 0 400 T := (cx_f67 hw).trans ((cx_v67 hw).trans hQ)
  obtain ⟨v, F2, hM, ht, hf⟩ := cx_nu (l := l) (G := G) (sz := sz) (x := .ref w) hT2 (F := F) (n := n) (a := S.1) he.1 hn he.2.1 ha he.2.2.2.1 (lo := 1) (hi := 2000) (by omega) S.2.2.1
  have ht : (ck_num T n 1 2000 S.1 (-1) S.2.2.1).2.2.1 = -1 → v = (ck_num T n 1 2000 S.1 (-1) S.2.2.1).1 ∧ F2 1 = nI n ∧ F2 2 = nI (ck_sk T n (ck_num T n 1 2000 S.1 (-1) S.2.2.1).2.1) ∧ F2 3 = F 3 ∧ F2 4 = 0 ∧ F2 5 = F 5 ∧ F2 8 = nI (ck_sk T n S.1) := ht
  have hf : ¬ (ck_num T n 1 2000 S.1 (-1) S.2.2.1).2.2.1 = -1 → F2 4 = (ck_num T n 1 2000 S.1 (-1) S.2.2.1).2.2.2 ∧ F2 5 = (ck_num T n 1 2000 S.1 (-1) S.2.2.1).2.2.1 ∧ ¬ F2 4 = 0 := hf
  refine kx_Mn.ex (cn_6 l G (P := Q) hw hT2 h6 h7 hb hn w0 w1 w2 w3 w4 w5 w6 hM) ?_
  generalize (ck_num T n 1 2000 S.1 (-1) S.2.2.1) = rr at ht hf ⊢
  by_cases hg : rr.2.2.1 = -1
  · obtain ⟨rfl, e1, e2, e3, e4, e5, -⟩ := ht hg
    exact cx_PD.t rfl hg ⟨⟨e1, e2, e3.trans he.2.2.1, e4, e5.trans he.2.2.2.2.1, he.2.2.2.2.2.1, he.2.2.2.2.2.2⟩, hv.u (kt := 5) (kv := 6) _ (by decide), hth.u _ (by decide)⟩
  · obtain ⟨x4, x5, x6⟩ := hf hg
    exact cx_PD.f rfl hg ⟨x4, x5, fun z => x6 (x4.trans z)⟩
theorem cx_nm_7 {l : Launch} {G : kx_G} {Q : kx_P} {w : Nat} {sz : Nat} {T F V te qu Fo st : Nat → Int32} {n : Nat} {S : ck_R} {p wc : Nat} {h : Int32} {t e : Nat → Int32} (hw : 144 ≤ w) (hQ : Q 67 = kI 0 400 T) (hn : n ≤ 400) {b : Nat} (hb : b ≤ n) (h6 : F 6 = nI b) (h7 : F 7 = nI (ck_ps T n b)) (ha : S.1 ≤ n) (hD : cx_D T n (S, p, wc, h, t, e) F V te qu Fo st) (w0 : ¬ ck_wo_ T n b = kz_co 0) (w1 : ¬ ck_wo_ T n b = kz_co 1) (w2 : ¬ ck_wo_ T n b = kz_co 2) (w3 : ¬ ck_wo_ T n b = kz_co 3) (w4 : ¬ ck_wo_ T n b = kz_co 4) (w5 : ¬ ck_wo_ T n b = kz_co 5) (w6 : ¬ ck_wo_ T n b = kz_co 6) : kx_Mn l G sX8_readNumbered 6 0 0 [.ref 68] (cx_8 (cx_fW (cx_vW Q w V te qu) w Fo st) (.ref w) F) sz (cx_PD Q w T n (((ck_num T n 0 200 S.1 (-1) S.2.2.1).2.1, (ck_num T n 0 200 S.1 (-1) S.2.2.1).2.2.1, (ck_num T n 0 200 S.1 (-1) S.2.2.1).2.2.2, S.2.2.2), p, wc, h, upd t 14 (ck_num T n 0 200 S.1 (-1) S.2.2.1).1, e) sz cx_rn) := by
  obtain ⟨he, hv, hth⟩ := hD
  have hv : cx_V t V qu := hv
  have hth : cx_Th h wc e V te := hth
  have hT2 : cx_fW (cx_vW Q w V te qu) w Fo st 67 = kI 0 400 T := (cx_f67 hw).trans ((cx_v67 hw).trans hQ)
  obtain ⟨v, F2, hM, ht, hf⟩ := cx_nu (l := l) (G := G) (sz := sz) (x := .ref w) hT2 (F := F) (n := n) (a := S.1) he.1 hn he.2.1 ha he.2.2.2.1 (lo := 0) (hi := 200) (by omega) S.2.2.1
  have ht : (ck_num T n 0 200 S.1 (-1) S.2.2.1).2.2.1 = -1 → v = (ck_num T n 0 200 S.1 (-1) S.2.2.1).1 ∧ F2 1 = nI n ∧ F2 2 = nI (ck_sk T n (ck_num T n 0 200 S.1 (-1) S.2.2.1).2.1) ∧ F2 3 = F 3 ∧ F2 4 = 0 ∧ F2 5 = F 5 ∧ F2 8 = nI (ck_sk T n S.1) := ht
  have hf : ¬ (ck_num T n 0 200 S.1 (-1) S.2.2.1).2.2.1 = -1 → F2 4 = (ck_num T n 0 200 S.1 (-1) S.2.2.1).2.2.2 ∧ F2 5 = (ck_num T n 0 200 S.1 (-1) S.2.2.1).2.2.1 ∧ ¬ F2 4 = 0 := hf
  refine kx_Mn.ex (cn_7 l G (P := Q) hw hT2 h6 h7 hb hn w0 w1 w2 w3 w4 w5 w6 hM) ?_
  generalize (ck_num T n 0 200 S.1 (-1) S.2.2.1) = rr at ht hf ⊢
  by_cases hg : rr.2.2.1 = -1
  · obtain ⟨rfl, e1, e2, e3, e4, e5, -⟩ := ht hg
    exact cx_PD.t rfl hg ⟨⟨e1, e2, e3.trans he.2.2.1, e4, e5.trans he.2.2.2.2.1, he.2.2.2.2.2.1, he.2.2.2.2.2.2⟩, hv.u (kt := 14) (kv := 7) _ (by decide), hth.u _ (by decide)⟩
  · obtain ⟨x4, x5, x6⟩ := hf hg
    exact cx_PD.f rfl hg ⟨x4, x5, fun z => x6 (x4.trans z)⟩
theorem kz_c0 : kz_co 0 = 19118 := by decide +kernel
theorem kz_c1 : kz_co 1 = 67173 := by decide +kernel
theorem kz_c2 : kz_co 2 = 755277 := by decide +kernel
theorem kz_c3 : kz_co 3 = 758834 := by decide +kernel
theorem kz_c4 : kz_co 4 = 546188 := by decide +kernel
theorem kz_c5 : kz_co 5 = 16955865 := by decide +kernel
theorem kz_c6 : kz_co 6 = 21091560627 := by decide +kernel
theorem kz_c7 : kz_co 7 = 19039336 := by decide +kernel
theorem kz_c8 : kz_co 8 = 659105125 := by decide +kernel
theorem kz_c9 : kz_co 9 = 606717220435 := by decide +kernel
theorem kz_c10 : kz_co 10 = 647370196 := by decide +kernel
theorem kz_c11 : kz_co 11 = 104561315890 := by decide +kernel


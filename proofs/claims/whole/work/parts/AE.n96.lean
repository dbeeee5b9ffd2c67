theorem kz_c13 : kz_co 13 = 278194 := by decide +kernel
theorem kz_c14 : kz_co 14 = 132741 := by decide +kernel
theorem kz_c15 : kz_co 15 = 14137992 := by decide +kernel
theorem kz_c16 : kz_co 16 = 294 := by decide +kernel
theorem ck_num_lo {T : Nat → Int32} {n : Nat} {lo hi : Int32} {a : Nat} {k : Int32} (h : (ck_num T n lo hi a (-1) k).2.2.1 = -1) (hn : n ≤ 400) (ha : a ≤ n) : lo ≤ (ck_num T n lo hi a (-1) k).1 ∧ (ck_num T n lo hi a (-1) k).1 ≤ hi := by
  have hle := ck_sk_le T ha
  unfold ck_num at h ⊢
  rw [if_pos rfl] at h ⊢
  by_cases hd : 48 ≤ ck_hcx T n a ∧ ck_hcx T n a ≤ 57
  · rw [if_pos hd] at h ⊢
    by_cases hr : lo ≤ (ck_dgf T (n - ck_sk T n a) (ck_sk T n a) 0).1 ∧ (ck_dgf T (n - ck_sk T n a) (ck_sk T n a) 0).1 ≤ hi
    · rw [if_pos hr]; exact hr
    · rw [if_neg hr] at h; exact absurd h (ck_m1 _ (by omega))
  · rw [if_neg hd] at h; exact absurd h (ck_m1 _ (by omega))
theorem cx_unit {l : Launch} {G : kx_G} {Q : kx_P} {w : Nat} {sz : Nat} (hw : 144 ≤ w) {T V : Nat → Int32} (hT : Q 67 = kI 0 400 T) (hQ : Q w = kO 9 (kf (cr9 w) V)) {n : Nat} (hn : n ≤ 400) {N D : Nat} (hD : 7 ≤ D) {W : ck_R → ck_R} (hWg : ck_gd n W) (hWs : ck_st W) (hW : ∀ S : ck_R, S.2.1 = -1 → ck_sl n 0 S → ck_lv N S → cx_W l G sX8_readSum D Q w T n [] S (W S) sz) : ∀ S : ck_R, S.2.1 = -1 → ck_sl n 0 S → ck_lv (N + 1) S → cx_W l G sX8_readUnit (D + 2) Q w T n [] S (ck_un T n W S) sz := by
  intro S hs hsl hlv F Fo st he
  have hn9 : n < 2 ^ 31 := by omega
  have hle := ck_sk_le T hsl.1
  have hT2 : cx_fW Q w Fo st 67 = kI 0 400 T := (cx_f67 hw).trans hT
  have hcl := hsl.2 hs
  unfold ck_un
  rw [if_pos hs]
  by_cases hd : 48 ≤ ck_hcx T n S.1 ∧ ck_hcx T n S.1 ≤ 57
  · rw [if_pos hd]
    have hlt := (cx_nx_d hd).1
    obtain ⟨v, F2, hM, ht, hf⟩ := cx_nu (l := l) (G := G) (sz := sz) (x := .ref w) hT2 (a := ck_sk T n S.1) he.1 hn (by rw [ck_skk]; exact he.2.1) hle.2 he.2.2.2.1 (lo := 0) (hi := 99) (by omega) S.2.2.1
    have ht : (ck_num T n 0 99 (ck_sk T n S.1) (-1) S.2.2.1).2.2.1 = -1 → v = (ck_num T n 0 99 (ck_sk T n S.1) (-1) S.2.2.1).1 ∧ F2 1 = nI n ∧ F2 2 = nI (ck_sk T n (ck_num T n 0 99 (ck_sk T n S.1) (-1) S.2.2.1).2.1) ∧ F2 3 = F 3 ∧ F2 4 = 0 ∧ F2 5 = F 5 ∧ F2 8 = nI (ck_sk T n (ck_sk T n S.1)) := ht
    have hf : ¬ (ck_num T n 0 99 (ck_sk T n S.1) (-1) S.2.2.1).2.2.1 = -1 → F2 4 = (ck_num T n 0 99 (ck_sk T n S.1) (-1) S.2.2.1).2.2.2 ∧ F2 5 = (ck_num T n 0 99 (ck_sk T n S.1) (-1) S.2.2.1).2.2.1 ∧ ¬ F2 4 = 0 := hf
    by_cases hb : (ck_num T n 0 99 (ck_sk T n S.1) (-1) S.2.2.1).2.2.1 = -1
    · rw [if_pos hb]
      obtain ⟨rfl, e1, e2, e3, e4, e5, -⟩ := ht hb
      have hlo := (ck_num_lo hb hn hle.2).1
      exact (cu_d1 l G (P := Q) (sz := sz) hw hT hQ hn hs hsl.1 he (d := D + 2) (by omega)  hd (S2 := ((ck_num T n 0 99 (ck_sk T n S.1) (-1) S.2.2.1).2.1, (ck_num T n 0 99 (ck_sk T n S.1) (-1) S.2.2.1).2.2.1, (ck_num T n 0 99 (ck_sk T n S.1) (-1) S.2.2.1).2.2.2, S.2.2.2)) hM hb ⟨e1, e2, e3.trans he.2.2.1, e4, e5.trans he.2.2.2.2.1, he.2.2.2.2.2.1, he.2.2.2.2.2.2⟩ (by show S.2.2.2.2.1 < 400; omega) (Or.inl ⟨rfl, rfl, hlo⟩))
    · rw [if_neg hb]
      obtain ⟨e1, e2, e3⟩ := hf hb
      exact (cu_d0 l G (P := Q) (sz := sz) hw hT hQ hn hs hsl.1 he (d := D + 2) (by omega)  hd (S2 := ((ck_num T n 0 99 (ck_sk T n S.1) (-1) S.2.2.1).2.1, (ck_num T n 0 99 (ck_sk T n S.1) (-1) S.2.2.1).2.2.1, (ck_num T n 0 99 (ck_sk T n S.1) (-1) S.2.2.1).2.2.2, S.2.2.2)) hM hb ⟨e1, e2, fun z => e3 (e1.trans z)⟩)
  · rw [if_neg hd]
    by_cases hp : ck_hcx T n S.1 = 40
    · rw [if_pos hp, ck_opR_k hs]
      obtain ⟨q, hq, hq8, hq9⟩ := hlv hs
      have h1 : cx_W l G sX8_takeOpening 4 Q w T n [] S (ck_opR T n S) sz := fun F Fo st he => cx_op hw hT hn hs hsl.1 he hq hq8
      have o1 := (ck_op_sl (T := T) hn9 hsl).1
      have l1 := ck_lv_op (T := T) hn9 hsl hlv
      generalize ck_opR T n S = S1 at h1 o1 l1 ⊢
      by_cases hs1 : S1.2.1 = -1
      · have h2 := hW S1 hs1 (ck_sl_0 o1) l1
        have g2 := hWg 1 S1 o1
        generalize W S1 = S2 at h2 g2 ⊢
        by_cases hs2 : S2.2.1 = -1
        · have h3 : cx_W l G sX8_takeClosing 4 Q w T n [] S2 (ck_clR T n S2) sz := fun F Fo st he => cx_cl hw hT hn hs2 g2.1.1 he
          generalize ck_clR T n S2 = S3 at h3 ⊢
          by_cases hs3 : S3.2.1 = -1
          · exact (cu_p4 l G (P := Q) (sz := sz) hw hT hQ hn hs hsl.1 he (d := D + 2) (by omega)  hd hp h1 hs1 (d2 := D) (by omega) h2 hs2 h3 hs3)
          · exact (cu_p3 l G (P := Q) (sz := sz) hw hT hQ hn hs hsl.1 he (d := D + 2) (by omega)  hd hp h1 hs1 (d2 := D) (by omega) h2 hs2 h3 hs3)
        · obtain ⟨e1, e2⟩ := ck_clR_f (T := T) (n := n) hs2
          exact (cu_p2 l G (P := Q) (sz := sz) hw hT hQ hn hs hsl.1 he (d := D + 2) (by omega)  hd hp h1 hs1 (d2 := D) (by omega) h2 hs2).imp (fun _ _ _ z => z.cg hs2 e1 e2)
      · rw [hWs _ hs1]
        obtain ⟨e1, e2⟩ := ck_clR_f (T := T) (n := n) hs1
        exact (cu_p1 l G (P := Q) (sz := sz) hw hT hQ hn hs hsl.1 he (d := D + 2) (by omega)  hd hp h1 hs1).imp (fun _ _ _ z => z.cg hs1 e1 e2)
    · rw [if_neg hp]
      have w13 := kz_c13
      have w14 := kz_c14
      have w15 := kz_c15
      have w16 := kz_c16
      have hps := ck_ps_le T hle.2
      by_cases x0 : ck_wo_ T n (ck_sk T n S.1) = 278194
      · rw [if_pos (Or.inl x0), if_neg (by rw [x0]; decide), if_pos x0]
        have hpp := ck_ps_pos (T := T) (n := n) (a := ck_sk T n S.1) (by rw [x0]; decide) hle.2
        exact (cu_w0 l G (P := Q) (sz := sz) hw hT hQ hn hs hsl.1 he (d := D + 2) (by omega)  hd hp (by omega) (x0.trans w13.symm))
      by_cases x1 : ck_wo_ T n (ck_sk T n S.1) = 132741
      · rw [if_pos (Or.inr (Or.inl x1)), if_neg (by rw [x1]; decide), if_neg x0, if_pos x1]
        have hpp := ck_ps_pos (T := T) (n := n) (a := ck_sk T n S.1) (by rw [x1]; decide) hle.2
        exact (cu_w1 l G (P := Q) (sz := sz) hw hT hQ hn hs hsl.1 he (d := D + 2) (by omega)  hd hp (by omega) (fun z => x0 (z.trans w13)) (x1.trans w14.symm))
      by_cases x2 : ck_wo_ T n (ck_sk T n S.1) = 14137992
      · rw [if_pos (Or.inr (Or.inr (Or.inl x2))), if_neg (by rw [x2]; decide), if_neg x0, if_neg x1]
        have hpp := ck_ps_pos (T := T) (n := n) (a := ck_sk T n S.1) (by rw [x2]; decide) hle.2
        exact (cu_w2 l G (P := Q) (sz := sz) hw hT hQ hn hs hsl.1 he (d := D + 2) (by omega)  hd hp (by omega) (fun z => x0 (z.trans w13)) (fun z => x1 (z.trans w14)) (x2.trans w15.symm))
      by_cases x3 : ck_wo_ T n (ck_sk T n S.1) = 294
      · rw [if_pos (Or.inr (Or.inr (Or.inr x3))), if_pos x3]
        have hsl2 : ck_sl n 0 (ck_ps T n (ck_sk T n S.1), S.2) := ⟨hps.2, fun _ => by show S.2.2.2.2.1 + 0 ≤ ck_ps T n (ck_sk T n S.1); omega⟩
        have hlv2 : ck_lv (N + 1) (ck_ps T n (ck_sk T n S.1), S.2) := fun _ => hlv hs
        exact (cu_w3 l G (P := Q) (sz := sz) hw hT hQ hn hs hsl.1 he (d := D + 2) (by omega)  hd hp (fun z => x0 (z.trans w13)) (fun z => x1 (z.trans w14)) (fun z => x2 (z.trans w15)) (x3.trans w16.symm) (d2 := D + 1) (by omega) (cx_choice hw hT hQ hn hD hWg hWs hW (S := (ck_ps T n (ck_sk T n S.1), S.2)) hs hsl2 hlv2))
      · rw [if_neg (fun z => by rcases z with z | z | z | z <;> contradiction)]
        exact (cu_w4 l G (P := Q) (sz := sz) hw hT hQ hn hs hsl.1 he (d := D + 2) (by omega)  hd hp (fun z => x0 (z.trans w13)) (fun z => x1 (z.trans w14)) (fun z => x2 (z.trans w15)) (fun z => x3 (z.trans w16)))
/-- a sum read, whatever brackets are open -/
theorem cx_sum {l : Launch} {G : kx_G} {Q : kx_P} {w : Nat} {sz : Nat} (hw : 144 ≤ w) {T V : Nat → Int32} (hT : Q 67 = kI 0 400 T) (hQ : Q w = kO 9 (kf (cr9 w) V)) {n : Nat} (hn : n ≤ 400) : ∀ (N : Nat) (S : ck_R), S.2.1 = -1 → ck_sl n 0 S → ck_lv N S → cx_W l G sX8_readSum (8 + 4 * N) Q w T n [] S (ck_wh T n N S) sz := by
  have hn9 : n < 2 ^ 31 := by omega
  intro N
  induction N with
  | zero =>
    intro S hs hsl hlv
    obtain ⟨q, hq, hq8, hq9⟩ := hlv hs
    omega
  | succ N ih =>
    intro S hs hsl hlv F Fo st he
    have hu := cx_unit (l := l) (G := G) (sz := sz) hw hT hQ hn (N := N) (D := 8 + 4 * N) (by omega) (ck_wh_gd hn9 N) (ck_wh_st N) ih
    have hug := ck_un_gd (T := T) hn9 (ck_wh_gd (T := T) hn9 N)
    have hp := fun (S : ck_R) (hs : S.2.1 = -1) (hsl : ck_sl n 0 S) (hlv : ck_lv (N + 1) S) => (show cx_W l G sX8_readProduct (8 + 4 * N + 3) Q w T n [] S (ck_te T n (ck_un T n (ck_wh T n N)) S) sz from fun F Fo st he => cp_pr l G (P := Q) (sz := sz) hw hT hQ hn (d := 8 + 4 * N + 3) (d2 := 8 + 4 * N + 2) (by omega) (by omega) hug ck_un_st hu hs hsl hlv he)
    exact cp_su l G (P := Q) (sz := sz) hw hT hQ hn (d := 8 + 4 * (N + 1)) (d2 := 8 + 4 * N + 3) (by omega) (by omega) (ck_te_gd hug) (ck_te_st ck_un_st) hp hs hsl hlv he

theorem ck_clR_f {T : Nat → Int32} {n : Nat} {S : ck_R} (h : ¬ S.2.1 = -1) : (ck_clR T n S).2.1 = S.2.1 ∧ (ck_clR T n S).2.2.1 = S.2.2.1 := by
  unfold ck_clR ck_need
  rw [if_neg h]
  exact ⟨rfl, rfl⟩
theorem ck_neR_f {T : Nat → Int32} {n : Nat} {ch : Int32} {S : ck_R} (h : ¬ S.2.1 = -1) : ck_neR T n ch S = S := by
  unfold ck_neR ck_need
  rw [if_neg h]
theorem ck_opR_k {T : Nat → Int32} {n : Nat} {S : ck_R} (h : S.2.1 = -1) : ck_opR T n (ck_sk T n S.1, S.2) = ck_opR T n S := by
  unfold ck_opR ck_op
  dsimp only
  rw [if_pos h, if_pos h, ck_hck, ck_skk]
theorem cx_choice {l : Launch} {G : kx_G} {Q : kx_P} {w : Nat} {sz : Nat} (hw : 144 ≤ w) {T V : Nat → Int32} (hT : Q 67 = kI 0 400 T) (hQ : Q w = kO 9 (kf (cr9 w) V)) {n : Nat} (hn : n ≤ 400) {N D : Nat} (hD : 7 ≤ D) {W : ck_R → ck_R} (hWg : ck_gd n W) (hWs : ck_st W) (hW : ∀ S : ck_R, S.2.1 = -1 → ck_sl n 0 S → ck_lv N S → cx_W l G sX8_readSum D Q w T n [] S (W S) sz) {S : ck_R} (hs : S.2.1 = -1) (hsl : ck_sl n 0 S) (hlv : ck_lv (N + 1) S) : cx_W l G sX8_readChoice (D + 1) Q w T n [] S (ck_br T n W S) sz := by
  intro F Fo st he
  have hn9 : n < 2 ^ 31 := by omega
  obtain ⟨q, hq, hq8, hq9⟩ := hlv hs
  have h1 : cx_W l G sX8_takeOpening 4 Q w T n [] S (ck_opR T n S) sz := fun F Fo st he => cx_op hw hT hn hs hsl.1 he hq hq8
  have o1 := (ck_op_sl (T := T) hn9 hsl).1
  have l1 := ck_lv_op (T := T) hn9 hsl hlv
  unfold ck_br
  dsimp only
  generalize ck_opR T n S = S1 at h1 o1 l1 ⊢
  by_cases hs1 : S1.2.1 = -1
  · have h2 := hW S1 hs1 (ck_sl_0 o1) l1
    have g2 := hWg 1 S1 o1
    have l2 := ck_lv_g g2 l1
    generalize W S1 = S2 at h2 g2 l2 ⊢
    by_cases hs2 : S2.2.1 = -1
    · have g3 := ck_cmp_sl (T := T) hn9 g2.1
      by_cases c60 : ck_hcx T n S2.1 = 60
      · have hcm : ck_cmp T n S2 = (60, (ck_sk T n S2.1 + 1, S2.2)) := by
          unfold ck_cmp
          rw [if_pos hs2, if_pos (Or.inl c60), c60]
        rw [hcm] at g3 ⊢
        dsimp only at g3 ⊢
        have l3 := ck_lv_g g3 l2
        have h4 : cx_W l G sX8_readSum D Q w T n [] (ck_sk T n S2.1 + 1, S2.2) (W (ck_sk T n S2.1 + 1, S2.2)) sz := hW (ck_sk T n S2.1 + 1, S2.2) hs2 (ck_sl_0 g3.1) l3
        have g4 := hWg 1 _ g3.1
        have l4 := ck_lv_g g4 l3
        generalize W (ck_sk T n S2.1 + 1, S2.2) = S4 at h4 g4 l4 ⊢
        by_cases hs4 : S4.2.1 = -1
        · skip
          have h5 : cx_W l G sX8_takeSign 3 Q w T n [.int 44] S4 (ck_neR T n 44 S4) sz := fun F Fo st he => cx_ne hw hT hn hs4 g4.1.1 he (by decide)
          have g5 := ck_ne_sl (T := T) (ch := 44) (by decide) hn9 g4.1
          have l5 := ck_lv_g g5 l4
          generalize ck_neR T n 44 S4 = S5 at h5 g5 l5 ⊢
          by_cases hs5 : S5.2.1 = -1
          · skip
            have h6 : cx_W l G sX8_readSum D Q w T n [] S5 (W S5) sz := hW S5 hs5 (ck_sl_0 g5.1) l5
            have g6 := hWg 1 S5 g5.1
            have l6 := ck_lv_g g6 l5
            generalize W S5 = S6 at h6 g6 l6 ⊢
            by_cases hs6 : S6.2.1 = -1
            · skip
              have h7 : cx_W l G sX8_takeSign 3 Q w T n [.int 44] S6 (ck_neR T n 44 S6) sz := fun F Fo st he => cx_ne hw hT hn hs6 g6.1.1 he (by decide)
              have g7 := ck_ne_sl (T := T) (ch := 44) (by decide) hn9 g6.1
              have l7 := ck_lv_g g7 l6
              generalize ck_neR T n 44 S6 = S7 at h7 g7 l7 ⊢
              by_cases hs7 : S7.2.1 = -1
              · skip
                have h8 : cx_W l G sX8_readSum D Q w T n [] S7 (W S7) sz := hW S7 hs7 (ck_sl_0 g7.1) l7
                have g8 := hWg 1 S7 g7.1
                have l8 := ck_lv_g g8 l7
                generalize W S7 = S8 at h8 g8 l8 ⊢
                by_cases hs8 : S8.2.1 = -1
                · skip
                  have h9 : cx_W l G sX8_takeClosing 4 Q w T n [] S8 (ck_clR T n S8) sz := fun F Fo st he => cx_cl hw hT hn hs8 g8.1.1 he
                  have g9 := (ck_cl_sl (T := T) hn9 g8.1).1
                  generalize ck_clR T n S8 = S9 at h9 g9 ⊢
                  by_cases hs9 : S9.2.1 = -1
                  · rw [if_pos hs9, if_pos rfl]
                    exact (cc_60_t l G (P := Q) (sz := sz) hw hT hQ hn hs hsl.1 he (d := D + 1) (d2 := D) (by omega) (by omega) (S1 := S1) (S2 := S2) (S4 := S4) (S5 := S5) (S6 := S6) (S7 := S7) (S8 := S8) (S9 := S9) h1 hs1 h2 hs2 g2.1.1 c60 h4 hs4 h5 hs5 h6 hs6 h7 hs7 h8 hs8 h9 hs9 (by have := g9.2 hs9; have := g9.1; omega))
                  · rw [if_neg hs9]
                    exact (cc_60_9 l G (P := Q) (sz := sz) hw hT hQ hn hs hsl.1 he (d := D + 1) (d2 := D) (by omega) (by omega) (S1 := S1) (S2 := S2) (S4 := S4) (S5 := S5) (S6 := S6) (S7 := S7) (S8 := S8) (S9 := S9) h1 hs1 h2 hs2 g2.1.1 c60 h4 hs4 h5 hs5 h6 hs6 h7 hs7 h8 hs8 h9 hs9)
                · obtain ⟨e1, e2⟩ := ck_clR_f (T := T) (n := n) hs8
                  rw [if_neg (fun z => hs8 (e1.symm.trans z))]
                  exact (cc_60_8 l G (P := Q) (sz := sz) hw hT hQ hn hs hsl.1 he (d := D + 1) (d2 := D) (by omega) (by omega) (S1 := S1) (S2 := S2) (S4 := S4) (S5 := S5) (S6 := S6) (S7 := S7) (S8 := S8) (S9 := S) h1 hs1 h2 hs2 g2.1.1 c60 h4 hs4 h5 hs5 h6 hs6 h7 hs7 h8 hs8).imp (fun _ _ _ z => z.cg hs8 e1 e2)
              · rw [hWs S7 hs7]
                obtain ⟨e1, e2⟩ := ck_clR_f (T := T) (n := n) hs7
                rw [if_neg (fun z => hs7 (e1.symm.trans z))]
                exact (cc_60_7 l G (P := Q) (sz := sz) hw hT hQ hn hs hsl.1 he (d := D + 1) (d2 := D) (by omega) (by omega) (S1 := S1) (S2 := S2) (S4 := S4) (S5 := S5) (S6 := S6) (S7 := S7) (S8 := S) (S9 := S) h1 hs1 h2 hs2 g2.1.1 c60 h4 hs4 h5 hs5 h6 hs6 h7 hs7).imp (fun _ _ _ z => z.cg hs7 e1 e2)
            · rw [ck_neR_f hs6, hWs S6 hs6]
              obtain ⟨e1, e2⟩ := ck_clR_f (T := T) (n := n) hs6
              rw [if_neg (fun z => hs6 (e1.symm.trans z))]
              exact (cc_60_6 l G (P := Q) (sz := sz) hw hT hQ hn hs hsl.1 he (d := D + 1) (d2 := D) (by omega) (by omega) (S1 := S1) (S2 := S2) (S4 := S4) (S5 := S5) (S6 := S6) (S7 := S) (S8 := S) (S9 := S) h1 hs1 h2 hs2 g2.1.1 c60 h4 hs4 h5 hs5 h6 hs6).imp (fun _ _ _ z => z.cg hs6 e1 e2)
          · rw [hWs S5 hs5, ck_neR_f hs5, hWs S5 hs5]
            obtain ⟨e1, e2⟩ := ck_clR_f (T := T) (n := n) hs5
            rw [if_neg (fun z => hs5 (e1.symm.trans z))]
            exact (cc_60_5 l G (P := Q) (sz := sz) hw hT hQ hn hs hsl.1 he (d := D + 1) (d2 := D) (by omega) (by omega) (S1 := S1) (S2 := S2) (S4 := S4) (S5 := S5) (S6 := S) (S7 := S) (S8 := S) (S9 := S) h1 hs1 h2 hs2 g2.1.1 c60 h4 hs4 h5 hs5).imp (fun _ _ _ z => z.cg hs5 e1 e2)
        · rw [ck_neR_f hs4, hWs S4 hs4, ck_neR_f hs4, hWs S4 hs4]
          obtain ⟨e1, e2⟩ := ck_clR_f (T := T) (n := n) hs4
          rw [if_neg (fun z => hs4 (e1.symm.trans z))]
          exact (cc_60_4 l G (P := Q) (sz := sz) hw hT hQ hn hs hsl.1 he (d := D + 1) (d2 := D) (by omega) (by omega) (S1 := S1) (S2 := S2) (S4 := S4) (S5 := S) (S6 := S) (S7 := S) (S8 := S) (S9 := S) h1 hs1 h2 hs2 g2.1.1 c60 h4 hs4).imp (fun _ _ _ z => z.cg hs4 e1 e2)
      by_cases c62 : ck_hcx T n S2.1 = 62
      · have hcm : ck_cmp T n S2 = (62, (ck_sk T n S2.1 + 1, S2.2)) := by
          unfold ck_cmp
          rw [if_pos hs2, if_pos (Or.inr (Or.inl c62)), c62]
        rw [hcm] at g3 ⊢
        dsimp only at g3 ⊢
        have l3 := ck_lv_g g3 l2
        have h4 : cx_W l G sX8_readSum D Q w T n [] (ck_sk T n S2.1 + 1, S2.2) (W (ck_sk T n S2.1 + 1, S2.2)) sz := hW (ck_sk T n S2.1 + 1, S2.2) hs2 (ck_sl_0 g3.1) l3
        have g4 := hWg 1 _ g3.1
        have l4 := ck_lv_g g4 l3
        generalize W (ck_sk T n S2.1 + 1, S2.2) = S4 at h4 g4 l4 ⊢
        by_cases hs4 : S4.2.1 = -1
        · skip
          have h5 : cx_W l G sX8_takeSign 3 Q w T n [.int 44] S4 (ck_neR T n 44 S4) sz := fun F Fo st he => cx_ne hw hT hn hs4 g4.1.1 he (by decide)
          have g5 := ck_ne_sl (T := T) (ch := 44) (by decide) hn9 g4.1
          have l5 := ck_lv_g g5 l4
          generalize ck_neR T n 44 S4 = S5 at h5 g5 l5 ⊢
          by_cases hs5 : S5.2.1 = -1
          · skip
            have h6 : cx_W l G sX8_readSum D Q w T n [] S5 (W S5) sz := hW S5 hs5 (ck_sl_0 g5.1) l5
            have g6 := hWg 1 S5 g5.1
            have l6 := ck_lv_g g6 l5
            generalize W S5 = S6 at h6 g6 l6 ⊢
            by_cases hs6 : S6.2.1 = -1
            · skip
              have h7 : cx_W l G sX8_takeSign 3 Q w T n [.int 44] S6 (ck_neR T n 44 S6) sz := fun F Fo st he => cx_ne hw hT hn hs6 g6.1.1 he (by decide)
              have g7 := ck_ne_sl (T := T) (ch := 44) (by decide) hn9 g6.1
              have l7 := ck_lv_g g7 l6
              generalize ck_neR T n 44 S6 = S7 at h7 g7 l7 ⊢
              by_cases hs7 : S7.2.1 = -1
              · skip
                have h8 : cx_W l G sX8_readSum D Q w T n [] S7 (W S7) sz := hW S7 hs7 (ck_sl_0 g7.1) l7
                have g8 := hWg 1 S7 g7.1
                have l8 := ck_lv_g g8 l7
                generalize W S7 = S8 at h8 g8 l8 ⊢
                by_cases hs8 : S8.2.1 = -1
                · skip
                  have h9 : cx_W l G sX8_takeClosing 4 Q w T n [] S8 (ck_clR T n S8) sz := fun F Fo st he => cx_cl hw hT hn hs8 g8.1.1 he
                  have g9 := (ck_cl_sl (T := T) hn9 g8.1).1
                  generalize ck_clR T n S8 = S9 at h9 g9 ⊢
                  by_cases hs9 : S9.2.1 = -1
                  · rw [if_pos hs9, if_neg (by decide), if_pos rfl]
                    exact (cc_62_t l G (P := Q) (sz := sz) hw hT hQ hn hs hsl.1 he (d := D + 1) (d2 := D) (by omega) (by omega) (S1 := S1) (S2 := S2) (S4 := S4) (S5 := S5) (S6 := S6) (S7 := S7) (S8 := S8) (S9 := S9) h1 hs1 h2 hs2 g2.1.1 c60 c62 h4 hs4 h5 hs5 h6 hs6 h7 hs7 h8 hs8 h9 hs9 (by have := g9.2 hs9; have := g9.1; omega))
                  · rw [if_neg hs9]
                    exact (cc_62_9 l G (P := Q) (sz := sz) hw hT hQ hn hs hsl.1 he (d := D + 1) (d2 := D) (by omega) (by omega) (S1 := S1) (S2 := S2) (S4 := S4) (S5 := S5) (S6 := S6) (S7 := S7) (S8 := S8) (S9 := S9) h1 hs1 h2 hs2 g2.1.1 c60 c62 h4 hs4 h5 hs5 h6 hs6 h7 hs7 h8 hs8 h9 hs9)
                · obtain ⟨e1, e2⟩ := ck_clR_f (T := T) (n := n) hs8
                  rw [if_neg (fun z => hs8 (e1.symm.trans z))]
                  exact (cc_62_8 l G (P := Q) (sz := sz) hw hT hQ hn hs hsl.1 he (d := D + 1) (d2 := D) (by omega) (by omega) (S1 := S1) (S2 := S2) (S4 := S4) (S5 := S5) (S6 := S6) (S7 := S7) (S8 := S8) (S9 := S) h1 hs1 h2 hs2 g2.1.1 c60 c62 h4 hs4 h5 hs5 h6 hs6 h7 hs7 h8 hs8).imp (fun _ _ _ z => z.cg hs8 e1 e2)
              · rw [hWs S7 hs7]
                obtain ⟨e1, e2⟩ := ck_clR_f (T := T) (n := n) hs7
                rw [if_neg (fun z => hs7 (e1.symm.trans z))]
                exact (cc_62_7 l G (P := Q) (sz := sz) hw hT hQ hn hs hsl.1 he (d := D + 1) (d2 := D) (by omega) (by omega) (S1 := S1) (S2 := S2) (S4 := S4) (S5 := S5) (S6 := S6) (S7 := S7) (S8 := S) (S9 := S) h1 hs1 h2 hs2 g2.1.1 c60 c62 h4 hs4 h5 hs5 h6 hs6 h7 hs7).imp (fun _ _ _ z => z.cg hs7 e1 e2)
            · rw [ck_neR_f hs6, hWs S6 hs6]
              obtain ⟨e1, e2⟩ := ck_clR_f (T := T) (n := n) hs6
              rw [if_neg (fun z => hs6 (e1.symm.trans z))]
              exact (cc_62_6 l G (P := Q) (sz := sz) hw hT hQ hn hs hsl.1 he (d := D + 1) (d2 := D) (by omega) (by omega) (S1 := S1) (S2 := S2) (S4 := S4) (S5 := S5) (S6 := S6) (S7 := S) (S8 := S) (S9 := S) h1 hs1 h2 hs2 g2.1.1 c60 c62 h4 hs4 h5 hs5 h6 hs6).imp (fun _ _ _ z => z.cg hs6 e1 e2)
          · rw [hWs S5 hs5, ck_neR_f hs5, hWs S5 hs5]
            obtain ⟨e1, e2⟩ := ck_clR_f (T := T) (n := n) hs5
            rw [if_neg (fun z => hs5 (e1.symm.trans z))]
            exact (cc_62_5 l G (P := Q) (sz := sz) hw hT hQ hn hs hsl.1 he (d := D + 1) (d2 := D) (by omega) (by omega) (S1 := S1) (S2 := S2) (S4 := S4) (S5 := S5) (S6 := S) (S7 := S) (S8 := S) (S9 := S) h1 hs1 h2 hs2 g2.1.1 c60 c62 h4 hs4 h5 hs5).imp (fun _ _ _ z => z.cg hs5 e1 e2)
        · rw [ck_neR_f hs4, hWs S4 hs4, ck_neR_f hs4, hWs S4 hs4]
          obtain ⟨e1, e2⟩ := ck_clR_f (T := T) (n := n) hs4
          rw [if_neg (fun z => hs4 (e1.symm.trans z))]
          exact (cc_62_4 l G (P := Q) (sz := sz) hw hT hQ hn hs hsl.1 he (d := D + 1) (d2 := D) (by omega) (by omega) (S1 := S1) (S2 := S2) (S4 := S4) (S5 := S) (S6 := S) (S7 := S) (S8 := S) (S9 := S) h1 hs1 h2 hs2 g2.1.1 c60 c62 h4 hs4).imp (fun _ _ _ z => z.cg hs4 e1 e2)
      by_cases c61 : ck_hcx T n S2.1 = 61
      · have hcm : ck_cmp T n S2 = (61, (ck_sk T n S2.1 + 1, S2.2)) := by
          unfold ck_cmp
          rw [if_pos hs2, if_pos (Or.inr (Or.inr c61)), c61]
        rw [hcm] at g3 ⊢
        dsimp only at g3 ⊢
        have l3 := ck_lv_g g3 l2
        have h4 : cx_W l G sX8_readSum D Q w T n [] (ck_sk T n S2.1 + 1, S2.2) (W (ck_sk T n S2.1 + 1, S2.2)) sz := hW (ck_sk T n S2.1 + 1, S2.2) hs2 (ck_sl_0 g3.1) l3
        have g4 := hWg 1 _ g3.1
        have l4 := ck_lv_g g4 l3
        generalize W (ck_sk T n S2.1 + 1, S2.2) = S4 at h4 g4 l4 ⊢
        by_cases hs4 : S4.2.1 = -1
        · skip
          have h5 : cx_W l G sX8_takeSign 3 Q w T n [.int 44] S4 (ck_neR T n 44 S4) sz := fun F Fo st he => cx_ne hw hT hn hs4 g4.1.1 he (by decide)
          have g5 := ck_ne_sl (T := T) (ch := 44) (by decide) hn9 g4.1
          have l5 := ck_lv_g g5 l4
          generalize ck_neR T n 44 S4 = S5 at h5 g5 l5 ⊢
          by_cases hs5 : S5.2.1 = -1
          · skip
            have h6 : cx_W l G sX8_readSum D Q w T n [] S5 (W S5) sz := hW S5 hs5 (ck_sl_0 g5.1) l5
            have g6 := hWg 1 S5 g5.1
            have l6 := ck_lv_g g6 l5
            generalize W S5 = S6 at h6 g6 l6 ⊢
            by_cases hs6 : S6.2.1 = -1
            · skip
              have h7 : cx_W l G sX8_takeSign 3 Q w T n [.int 44] S6 (ck_neR T n 44 S6) sz := fun F Fo st he => cx_ne hw hT hn hs6 g6.1.1 he (by decide)
              have g7 := ck_ne_sl (T := T) (ch := 44) (by decide) hn9 g6.1
              have l7 := ck_lv_g g7 l6
              generalize ck_neR T n 44 S6 = S7 at h7 g7 l7 ⊢
              by_cases hs7 : S7.2.1 = -1
              · skip
                have h8 : cx_W l G sX8_readSum D Q w T n [] S7 (W S7) sz := hW S7 hs7 (ck_sl_0 g7.1) l7
                have g8 := hWg 1 S7 g7.1
                have l8 := ck_lv_g g8 l7
                generalize W S7 = S8 at h8 g8 l8 ⊢
                by_cases hs8 : S8.2.1 = -1
                · skip
                  have h9 : cx_W l G sX8_takeClosing 4 Q w T n [] S8 (ck_clR T n S8) sz := fun F Fo st he => cx_cl hw hT hn hs8 g8.1.1 he
                  have g9 := (ck_cl_sl (T := T) hn9 g8.1).1
                  generalize ck_clR T n S8 = S9 at h9 g9 ⊢
                  by_cases hs9 : S9.2.1 = -1
                  · rw [if_pos hs9, if_neg (by decide), if_neg (by decide)]
                    exact (cc_61_t l G (P := Q) (sz := sz) hw hT hQ hn hs hsl.1 he (d := D + 1) (d2 := D) (by omega) (by omega) (S1 := S1) (S2 := S2) (S4 := S4) (S5 := S5) (S6 := S6) (S7 := S7) (S8 := S8) (S9 := S9) h1 hs1 h2 hs2 g2.1.1 c60 c62 c61 h4 hs4 h5 hs5 h6 hs6 h7 hs7 h8 hs8 h9 hs9 (by have := g9.2 hs9; have := g9.1; omega))
                  · rw [if_neg hs9]
                    exact (cc_61_9 l G (P := Q) (sz := sz) hw hT hQ hn hs hsl.1 he (d := D + 1) (d2 := D) (by omega) (by omega) (S1 := S1) (S2 := S2) (S4 := S4) (S5 := S5) (S6 := S6) (S7 := S7) (S8 := S8) (S9 := S9) h1 hs1 h2 hs2 g2.1.1 c60 c62 c61 h4 hs4 h5 hs5 h6 hs6 h7 hs7 h8 hs8 h9 hs9)
                · obtain ⟨e1, e2⟩ := ck_clR_f (T := T) (n := n) hs8
                  rw [if_neg (fun z => hs8 (e1.symm.trans z))]
                  exact (cc_61_8 l G (P := Q) (sz := sz) hw hT hQ hn hs hsl.1 he (d := D + 1) (d2 := D) (by omega) (by omega) (S1 := S1) (S2 := S2) (S4 := S4) (S5 := S5) (S6 := S6) (S7 := S7) (S8 := S8) (S9 := S) h1 hs1 h2 hs2 g2.1.1 c60 c62 c61 h4 hs4 h5 hs5 h6 hs6 h7 hs7 h8 hs8).imp (fun _ _ _ z => z.cg hs8 e1 e2)
              · rw [hWs S7 hs7]
                obtain ⟨e1, e2⟩ := ck_clR_f (T := T) (n := n) hs7
                rw [if_neg (fun z => hs7 (e1.symm.trans z))]
                exact (cc_61_7 l G (P := Q) (sz := sz) hw hT hQ hn hs hsl.1 he (d := D + 1) (d2 := D) (by omega) (by omega) (S1 := S1) (S2 := S2) (S4 := S4) (S5 := S5) (S6 := S6) (S7 := S7) (S8 := S) (S9 := S) h1 hs1 h2 hs2 g2.1.1 c60 c62 c61 h4 hs4 h5 hs5 h6 hs6 h7 hs7).imp (fun _ _ _ z => z.cg hs7 e1 e2)
            · rw [ck_neR_f hs6, hWs S6 hs6]
              obtain ⟨e1, e2⟩ := ck_clR_f (T := T) (n := n) hs6
              rw [if_neg (fun z => hs6 (e1.symm.trans z))]
              exact (cc_61_6 l G (P := Q) (sz := sz) hw hT hQ hn hs hsl.1 he (d := D + 1) (d2 := D) (by omega) (by omega) (S1 := S1) (S2 := S2) (S4 := S4) (S5 := S5) (S6 := S6) (S7 := S) (S8 := S) (S9 := S) h1 hs1 h2 hs2 g2.1.1 c60 c62 c61 h4 hs4 h5 hs5 h6 hs6).imp (fun _ _ _ z => z.cg hs6 e1 e2)
          · rw [hWs S5 hs5, ck_neR_f hs5, hWs S5 hs5]
            obtain ⟨e1, e2⟩ := ck_clR_f (T := T) (n := n) hs5
            rw [if_neg (fun z => hs5 (e1.symm.trans z))]
            exact (cc_61_5 l G (P := Q) (sz := sz) hw hT hQ hn hs hsl.1 he (d := D + 1) (d2 := D) (by omega) (by omega) (S1 := S1) (S2 := S2) (S4 := S4) (S5 := S5) (S6 := S) (S7 := S) (S8 := S) (S9 := S) h1 hs1 h2 hs2 g2.1.1 c60 c62 c61 h4 hs4 h5 hs5).imp (fun _ _ _ z => z.cg hs5 e1 e2)
        · rw [ck_neR_f hs4, hWs S4 hs4, ck_neR_f hs4, hWs S4 hs4]
          obtain ⟨e1, e2⟩ := ck_clR_f (T := T) (n := n) hs4
          rw [if_neg (fun z => hs4 (e1.symm.trans z))]
          exact (cc_61_4 l G (P := Q) (sz := sz) hw hT hQ hn hs hsl.1 he (d := D + 1) (d2 := D) (by omega) (by omega) (S1 := S1) (S2 := S2) (S4 := S4) (S5 := S) (S6 := S) (S7 := S) (S8 := S) (S9 := S) h1 hs1 h2 hs2 g2.1.1 c60 c62 c61 h4 hs4).imp (fun _ _ _ z => z.cg hs4 e1 e2)
      have hle2 := ck_sk_le T g2.1.1
      have hcm : (ck_cmp T n S2).2 = (ck_sk T n S2.1, nI (ck_sk T n S2.1), 1, S2.2.2.2) := by
        unfold ck_cmp
        rw [if_pos hs2, if_neg (fun z => by rcases z with z | z | z <;> contradiction)]
      have hz : ¬ (ck_cmp T n S2).2.2.1 = -1 := by rw [hcm]; exact ck_m1 _ (by omega)
      rw [hWs _ hz, ck_neR_f hz, hWs _ hz, ck_neR_f hz, hWs _ hz]
      obtain ⟨e1, e2⟩ := ck_clR_f (T := T) (n := n) hz
      rw [if_neg (fun z => hz (e1.symm.trans z))]
      rw [hcm] at hz e1 e2 ⊢
      exact (cc_n l G (P := Q) (sz := sz) hw hT hQ hn hs hsl.1 he (d := D + 1) (d2 := D) (by omega) (by omega) (S1 := S1) (S2 := S2) (S4 := S) (S5 := S) (S6 := S) (S7 := S) (S8 := S) (S9 := S) h1 hs1 h2 hs2 g2.1.1 c60 c62 c61).imp (fun _ _ _ z => z.cg hz e1 e2)
    · have hcm : (ck_cmp T n S2).2 = S2 := by
        unfold ck_cmp
        rw [if_neg hs2]
      rw [hcm, hWs _ hs2, ck_neR_f hs2, hWs _ hs2, ck_neR_f hs2, hWs _ hs2]
      obtain ⟨e1, e2⟩ := ck_clR_f (T := T) (n := n) hs2
      rw [if_neg (fun z => hs2 (e1.symm.trans z))]
      exact (cc_2 l G (P := Q) (sz := sz) hw hT hQ hn hs hsl.1 he (d := D + 1) (d2 := D) (by omega) (by omega) (S1 := S1) (S2 := S2) (S4 := S) (S5 := S) (S6 := S) (S7 := S) (S8 := S) (S9 := S) h1 hs1 h2 hs2).imp (fun _ _ _ z => z.cg hs2 e1 e2)
  · rw [hWs _ hs1]
    have hcm : (ck_cmp T n S1).2 = S1 := by
      unfold ck_cmp
      rw [if_neg hs1]
    rw [hcm, hWs _ hs1, ck_neR_f hs1, hWs _ hs1, ck_neR_f hs1, hWs _ hs1]
    obtain ⟨e1, e2⟩ := ck_clR_f (T := T) (n := n) hs1
    rw [if_neg (fun z => hs1 (e1.symm.trans z))]
    exact (cc_1 l G (P := Q) (sz := sz) hw hT hQ hn hs hsl.1 he (d := D + 1) (d2 := D) (by omega) (by omega) (S1 := S1) (S2 := S) (S4 := S) (S5 := S) (S6 := S) (S7 := S) (S8 := S) (S9 := S) h1 hs1).imp (fun _ _ _ z => z.cg hs1 e1 e2)

theorem cx_V.u {t V qu : Nat → Int32} (hv : cx_V t V qu) {kt kv : Nat} (v : Int32) (hk : (kt, kv) ∈ ([(0, 0), (1, 1), (2, 2), (3, 3), (4, 4), (15, 5), (5, 6), (14, 7), (13, 8), (10, 9), (11, 10), (12, 11)] : List (Nat × Nat))) : cx_V (upd t kt v) (upd V kv v) qu := by
  obtain ⟨a0, a1, a2, a3, a4, a5, a6, a7, a8, a9, a10, a11, a12⟩ := hv
  simp only [List.mem_cons, Prod.mk.injEq, List.not_mem_nil, or_false] at hk
  rcases hk with ⟨rfl, rfl⟩ | ⟨rfl, rfl⟩ | ⟨rfl, rfl⟩ | ⟨rfl, rfl⟩ | ⟨rfl, rfl⟩ | ⟨rfl, rfl⟩ | ⟨rfl, rfl⟩ | ⟨rfl, rfl⟩ | ⟨rfl, rfl⟩ | ⟨rfl, rfl⟩ | ⟨rfl, rfl⟩ | ⟨rfl, rfl⟩ <;>
    exact ⟨by first | rfl | exact a0, by first | rfl | exact a1, by first | rfl | exact a2, by first | rfl | exact a3, by first | rfl | exact a4, by first | rfl | exact a5, by first | rfl | exact a6, by first | rfl | exact a7, by first | rfl | exact a8, by first | rfl | exact a9, by first | rfl | exact a10, by first | rfl | exact a11, fun j hj => (a12 j hj).trans (pk_un (by omega)).symm⟩
theorem cx_Th.u {h : Int32} {wc : Nat} {e V te : Nat → Int32} (ht : cx_Th h wc e V te) {k : Nat} (v : Int32) (hk : k < 12) : cx_Th h wc e (upd V k v) te :=
  ⟨(pk_un (by omega)).trans ht.1, fun q => ⟨(pk_un (by omega)).trans (ht.2 q).1, (ht.2 q).2⟩⟩
theorem cx_E0.mv {T : Nat → Int32} {n : Nat} {S : ck_R} {F Fo st : Nat → Int32} (he : cx_E0 T n S F Fo st) (a : Nat) (b k o : Int32) {F2 : Nat → Int32} (g1 : F2 1 = nI n) (g2 : F2 2 = nI (ck_sk T n a)) (g3 : F2 3 = F 3) (g4 : F2 4 = 0) (g5 : F2 5 = F 5) : cx_E0 T n (a, b, k, o, S.2.2.2.2) F2 Fo st :=
  ⟨g1, g2, g3.trans he.2.2.1, g4, g5.trans he.2.2.2.2.1, he.2.2.2.2.2.1, he.2.2.2.2.2.2⟩
theorem kz_c18 : kz_co 18 = 21088452772 := by decide +kernel
theorem kz_c19 : kz_co 19 = 267652 := by decide +kernel
theorem kz_c20 : kz_co 20 = 17171758 := by decide +kernel
theorem kz_c21 : kz_co 21 = 452415763 := by decide +kernel
theorem kz_c22 : kz_co 22 = 398384 := by decide +kernel
theorem cx_PD.t {Q : kx_P} {w : Nat} {T : Nat → Int32} {n : Nat} {R : ck_Qt} {sz : Nat} {ro : Option Value → Prop} {r : Option Value} {F V te qu Fo st : Nat → Int32} (hr : ro r) (h : R.1.2.1 = -1) (hd : cx_D T n R F V te qu Fo st) : cx_PD Q w T n R sz ro r (cx_8 (cx_fW (cx_vW Q w V te qu) w Fo st) (.ref w) F) sz := ⟨F, V, te, qu, Fo, st, hr, rfl, rfl, fun _ => hd, fun q => absurd h q⟩
theorem cx_PD.f {Q : kx_P} {w : Nat} {T : Nat → Int32} {n : Nat} {R : ck_Qt} {sz : Nat} {ro : Option Value → Prop} {r : Option Value} {F V te qu Fo st : Nat → Int32} (hr : ro r) (h : ¬ R.1.2.1 = -1) (hx : cx_X R.1 F) : cx_PD Q w T n R sz ro r (cx_8 (cx_fW (cx_vW Q w V te qu) w Fo st) (.ref w) F) sz := ⟨F, V, te, qu, Fo, st, hr, rfl, rfl, fun q => absurd q h, fun _ => hx⟩
section KCA
variable {l : Launch} {G : kx_G} {Q : kx_P} {w : Nat} {sz : Nat} {T F V te qu Fo st : Nat → Int32} {n : Nat} {S : ck_R} {p wc : Nat} {h : Int32} {t e : Nat → Int32}
theorem cx_cal (hw : 144 ≤ w) (hQ : Q 67 = kI 0 400 T) (hn : n ≤ 400) (ha : S.1 ≤ n) (hD : cx_D T n (S, p, wc, h, t, e) F V te qu Fo st) : kx_Mn l G sX8_readCalendar 6 0 0 [.ref 68] (cx_8 (cx_fW (cx_vW Q w V te qu) w Fo st) (.ref w) F) sz (cx_PD Q w T n (((ck_calR T n S.1 S.2.2.1 t).1, (ck_calR T n S.1 S.2.2.1 t).2.1, (ck_calR T n S.1 S.2.2.1 t).2.2.1, S.2.2.2), p, wc, h, (ck_calR T n S.1 S.2.2.1 t).2.2.2, e) sz cx_rn) := by
  obtain ⟨he, hv, hth⟩ := hD
  have hT2 : cx_fW (cx_vW Q w V te qu) w Fo st 67 = kI 0 400 T := (cx_f67 hw).trans ((cx_v67 hw).trans hQ)
  have hle := ck_sk_le T ha
  have c0 := kz_c20
  have c1 := kz_c21
  have c2 := kz_c22
  have hE : ∀ k : Int32, cx_E0 T n (ck_ps T n (ck_sk T n S.1), -1, k, S.2.2.2) (cx_tw T n (ck_sk T n S.1) F) Fo st := fun k => ⟨he.1, rfl, he.2.2.1, he.2.2.2.1, he.2.2.2.2.1, he.2.2.2.2.2.1, he.2.2.2.2.2.2⟩
  unfold ck_calR
  by_cases w0 : ck_wo_ T n (ck_sk T n S.1) = 17171758
  · rw [if_pos w0]
    exact kx_Mn.ex (ca_0 l G (P := Q) hw hT2 he.1 hn he.2.1 hle.2 (w0.trans c0.symm)) (cx_PD.t rfl rfl ⟨hE _, hv.u 0 (by decide), hth.u 0 (by decide)⟩)
  by_cases w1 : ck_wo_ T n (ck_sk T n S.1) = 452415763
  · rw [if_neg w0, if_pos w1]
    exact kx_Mn.ex (ca_1 l G (P := Q) hw hT2 he.1 hn he.2.1 hle.2 (fun z => w0 (z.trans c0)) (w1.trans c1.symm)) (cx_PD.t rfl rfl ⟨hE _, hv.u 1 (by decide), hth.u 1 (by decide)⟩)
  by_cases w2 : ck_wo_ T n (ck_sk T n S.1) = 398384
  · rw [if_neg w0, if_neg w1, if_pos w2]
    exact kx_Mn.ex (ca_2 l G (P := Q) hw hT2 he.1 hn he.2.1 hle.2 (fun z => w0 (z.trans c0)) (fun z => w1 (z.trans c1)) (w2.trans c2.symm)) (cx_PD.t rfl rfl ⟨hE _, hv.u 2 (by decide), hth.u 2 (by decide)⟩)
  · rw [if_neg w0, if_neg w1, if_neg w2]
    exact kx_Mn.ex (ca_3 l G (P := Q) hw hT2 he.1 hn he.2.1 hle.2 (fun z => w0 (z.trans c0)) (fun z => w1 (z.trans c1)) (fun z => w2 (z.trans c2))) (cx_PD.f rfl (ck_m1 _ (by omega)) (cx_rf_X (hE 0).2.2.2.1 (show ¬ (1 : Int32) = 0 by decide) _ _))
theorem cx_sil (hw : 144 ≤ w) (hQ : Q 67 = kI 0 400 T) (hn : n ≤ 400) (ha : S.1 ≤ n) (hD : cx_D T n (S, p, wc, h, t, e) F V te qu Fo st) : kx_Mn l G sX8_readSilent 6 0 0 [.ref 68] (cx_8 (cx_fW (cx_vW Q w V te qu) w Fo st) (.ref w) F) sz (cx_PD Q w T n (((ck_sil T n S.1 S.2.2.1 t).1, (ck_sil T n S.1 S.2.2.1 t).2.1, (ck_sil T n S.1 S.2.2.1 t).2.2.1, S.2.2.2), p, wc, h, (ck_sil T n S.1 S.2.2.1 t).2.2.2, e) sz cx_rn) := by
  obtain ⟨he, hv, hth⟩ := hD
  have hT2 : ∀ V te qu Fo st, cx_fW (cx_vW Q w V te qu) w Fo st 67 = kI 0 400 T := fun _ _ _ _ _ => (cx_f67 hw).trans ((cx_v67 hw).trans hQ)
  have c0 := kz_c18
  have c1 := kz_c19
  have hv : cx_V t V qu := hv
  have hth : cx_Th h wc e V te := hth
  obtain ⟨v1, F1, hM1, ht1, hf1⟩ := cx_nu (l := l) (G := G) (sz := sz) (x := .ref w) (hT2 V te qu Fo st) (F := F) (n := n) (a := S.1) he.1 hn he.2.1 ha he.2.2.2.1 (lo := 0) (hi := 23) (by omega) S.2.2.1
  have ht1 : (ck_num T n 0 23 S.1 (-1) S.2.2.1).2.2.1 = -1 → v1 = (ck_num T n 0 23 S.1 (-1) S.2.2.1).1 ∧ F1 1 = nI n ∧ F1 2 = nI (ck_sk T n (ck_num T n 0 23 S.1 (-1) S.2.2.1).2.1) ∧ F1 3 = F 3 ∧ F1 4 = 0 ∧ F1 5 = F 5 ∧ F1 8 = nI (ck_sk T n S.1) := ht1
  have hf1 : ¬ (ck_num T n 0 23 S.1 (-1) S.2.2.1).2.2.1 = -1 → F1 4 = (ck_num T n 0 23 S.1 (-1) S.2.2.1).2.2.2 ∧ F1 5 = (ck_num T n 0 23 S.1 (-1) S.2.2.1).2.2.1 ∧ ¬ F1 4 = 0 := hf1
  have z1 := ck_num_a (T := T) (n := n) (lo := 0) (hi := 23) (b := -1) (k := S.2.2.1) ha
  unfold ck_sil
  dsimp only
  generalize ck_num T n 0 23 S.1 (-1) S.2.2.1 = r1 at ht1 hf1 z1 ⊢
  obtain ⟨x1, a1, b1, k1⟩ := r1
  dsimp only at ht1 hf1 z1 ⊢
  by_cases hb1 : b1 = -1
  · obtain ⟨rfl, e1, e2, e3, e4, e5, -⟩ := ht1 hb1
    subst hb1
    have hle := ck_sk_le T z1.2
    unfold ck_need
    rw [if_pos rfl]
    by_cases hx : ck_hcx T n a1 = 45
    · rw [if_pos hx]
      dsimp only
      have hlt : ck_sk T n a1 < n := cx_nx_lt (T := T) (n := n) (a := ck_sk T n a1) hx (by decide)
      obtain ⟨v2, F2, hM2, ht2, hf2, hz1, c9, hz2, hz3⟩ := cx_nu2 (l := l) (G := G) (sz := sz) (x := .ref w) (hT2 (upd V 9 v1) te qu Fo st) (F := upd F1 2 (nI (ck_sk T n (ck_sk T n a1 + 1)))) (n := n) (a := ck_sk T n a1 + 1) e1 hn pk_us hlt e4 (lo := 0) (hi := 23) (by omega) k1
      have ht2 : (ck_num T n 0 23 (ck_sk T n a1 + 1) (-1) k1).2.2.1 = -1 → v2 = (ck_num T n 0 23 (ck_sk T n a1 + 1) (-1) k1).1 ∧ F2 1 = nI n ∧ F2 2 = nI (ck_sk T n (ck_num T n 0 23 (ck_sk T n a1 + 1) (-1) k1).2.1) ∧ F2 3 = F1 3 ∧ F2 4 = 0 ∧ F2 5 = F1 5 ∧ F2 8 = nI (ck_sk T n (ck_sk T n a1 + 1)) := ht2
      have hf2 : ¬ (ck_num T n 0 23 (ck_sk T n a1 + 1) (-1) k1).2.2.1 = -1 → F2 4 = (ck_num T n 0 23 (ck_sk T n a1 + 1) (-1) k1).2.2.2 ∧ F2 5 = (ck_num T n 0 23 (ck_sk T n a1 + 1) (-1) k1).2.2.1 ∧ ¬ F2 4 = 0 := hf2
      have z2 := ck_num_a (T := T) (n := n) (lo := 0) (hi := 23) (a := ck_sk T n a1 + 1) (b := -1) (k := k1) hlt
      generalize ck_num T n 0 23 (ck_sk T n a1 + 1) (-1) k1 = r2 at ht2 hf2 z2 ⊢
      obtain ⟨x2, a2, b2, k2⟩ := r2
      dsimp only at ht2 hf2 z2 ⊢
      by_cases hb2 : b2 = -1
      · obtain ⟨rfl, g1, g2, g3, g4, g5, -⟩ := ht2 hb2
        subst hb2
        rw [if_pos rfl]
        have hl2 := ck_sk_le T z2.2
        have hE : ∀ k : Int32, cx_E0 T n (ck_ps T n (ck_sk T n a2), -1, k, S.2.2.2) (cx_tw T n (ck_sk T n a2) F2) Fo st := fun k => ⟨g1, rfl, (g3.trans e3).trans he.2.2.1, g4, (g5.trans e5).trans he.2.2.2.2.1, he.2.2.2.2.2.1, he.2.2.2.2.2.2⟩
        have hv2 : ∀ u, cx_V (upd (upd (upd t 10 v1) 11 v2) 12 u) (upd (upd (upd V 9 v1) 10 v2) 11 u) qu := fun u => ((hv.u v1 (kt := 10) (kv := 9) (by decide)).u v2 (kt := 11) (kv := 10) (by decide)).u u (kt := 12) (kv := 11) (by decide)
        have ht9 : ∀ u, cx_Th h wc e (upd (upd (upd V 9 v1) 10 v2) 11 u) te := fun u => ((hth.u v1 (by decide)).u v2 (by decide)).u u (by decide)
        unfold ck_silE
        by_cases w0 : ck_wo_ T n (ck_sk T n a2) = 21088452772
        · rw [if_pos w0]
          exact kx_Mn.ex (cs_s l G (P := Q) (F3 := F) hw hQ hn hM1 e4 e1 e2 hle.2 hx hM2 g1 g2 hl2.2 (w0.trans c0.symm)) (cx_PD.t rfl rfl ⟨hE _, hv2 1, ht9 1⟩)
        by_cases w1 : ck_wo_ T n (ck_sk T n a2) = 267652
        · rw [if_neg w0, if_pos w1]
          exact kx_Mn.ex (cs_h l G (P := Q) (F3 := F) hw hQ hn hM1 e4 e1 e2 hle.2 hx hM2 g1 g2 hl2.2 (fun z => w0 (z.trans c0)) (w1.trans c1.symm)) (cx_PD.t rfl rfl ⟨hE _, hv2 0, ht9 0⟩)
        · rw [if_neg w0, if_neg w1]
          exact kx_Mn.ex (cs_n l G (P := Q) (F3 := F) hw hQ hn hM1 e4 e1 e2 hle.2 hx hM2 g1 g2 hl2.2 (fun z => w0 (z.trans c0)) (fun z => w1 (z.trans c1))) (cx_PD.f rfl (ck_m1 _ (by omega)) (cx_rf_X (hE 0).2.2.2.1 (show ¬ (1 : Int32) = 0 by decide) _ _))
      · obtain ⟨g1, g2, g3⟩ := hf2 hb2
        rw [if_neg hb2]
        by_cases w0 : ck_wo_ T n c9 = 21088452772
        · exact kx_Mn.ex (cs_s l G (P := Q) (F3 := F) hw hQ hn hM1 e4 e1 e2 hle.2 hx hM2 hz1 hz2 hz3 (w0.trans c0.symm)) (cx_PD.f rfl hb2 ⟨g1, g2, fun z => g3 (g1.trans z)⟩)
        by_cases w1 : ck_wo_ T n c9 = 267652
        · exact kx_Mn.ex (cs_h l G (P := Q) (F3 := F) hw hQ hn hM1 e4 e1 e2 hle.2 hx hM2 hz1 hz2 hz3 (fun z => w0 (z.trans c0)) (w1.trans c1.symm)) (cx_PD.f rfl hb2 ⟨g1, g2, fun z => g3 (g1.trans z)⟩)
        · have hrf : cx_rf 1 (nI c9) (cx_tw T n c9 F2) = cx_tw T n c9 F2 := if_neg (show ¬ cx_tw T n c9 F2 4 = 0 from g3)
          have hcn := cs_n l G (P := Q) (F3 := F) hw hQ hn hM1 e4 e1 e2 hle.2 hx hM2 hz1 hz2 hz3 (fun z => w0 (z.trans c0)) (fun z => w1 (z.trans c1))
          rw [hrf] at hcn
          exact kx_Mn.ex hcn (cx_PD.f rfl hb2 ⟨g1, g2, fun z => g3 (g1.trans z)⟩)
    · rw [if_neg hx]
      have hb3 : ¬ nI (ck_sk T n a1) = -1 := ck_m1 _ (by omega)
      unfold ck_num
      dsimp only
      rw [if_neg hb3, if_neg hb3]
      exact kx_Mn.ex (cs_2 l G (P := Q) (v2 := v1) (F2 := F) (F3 := F) hw hQ hn hM1 e4 e1 e2 hle.2 hx) (cx_PD.f rfl hb3 (cx_rf_X e4 (show ¬ (1 : Int32) = 0 by decide) _ _))
  · obtain ⟨g1, g2, g3⟩ := hf1 hb1
    unfold ck_need
    rw [if_neg hb1]
    unfold ck_num
    dsimp only
    rw [if_neg hb1, if_neg hb1]
    exact kx_Mn.ex (cs_1 l G (P := Q) (v2 := v1) (F2 := F) (F3 := F) hw hQ hn hM1 g3) (cx_PD.f rfl hb1 ⟨g1, g2, fun z => g3 (g1.trans z)⟩)
end KCA

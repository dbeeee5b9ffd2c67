/-! ONE STEP OF THE LAW: the class's answer, the reference's answer, and what stands behind them -/
theorem kx_Mw.imp {l : Launch} {G : kx_G} {y : kx_S} {hh : List (Nat × Nat × Nat × Nat)} {d mc ms : Nat} {As : List Value} {P : kx_P} {sz : Nat} {Po Po2 : Option Value → kx_P → Nat → Prop} (h : kx_Mw l G y hh d mc ms As P sz Po) (hi : ∀ r P' sz', Po r P' sz' → Po2 r P' sz') : kx_Mw l G y hh d mc ms As P sz Po2 := by
  intro p e ha hc hk s m args below hf happ hP hK
  obtain ⟨n, o, h1, h2, h3, h4⟩ := h p e ha hc hk s m args below hf happ hP hK
  refine ⟨n, o, h1, h2, h3, ?_⟩
  rcases h4 with ⟨⟨r, P', sz', q0, q1, q2⟩, q3⟩ | ⟨q, q0, E, ce, L, q1, -⟩
  · exact Or.inl ⟨⟨r, P', sz', hi _ _ _ q0, q1, q2⟩, q3⟩
  · exact q1.elim
theorem mW_out {M : Nat → Int32} {A : Nat → Nat → Int32} {L : Nat → Nat → Int64} {R : kx_P} {n : Nat} (h : ¬ (93 ≤ n ∧ n ≤ 142)) : mW M A L R n = R n := by
  unfold mW
  rw [if_neg (by omega), if_neg (by omega), if_neg (by omega), if_neg (by omega)]
theorem mW_in {M : Nat → Int32} {A : Nat → Nat → Int32} {L : Nat → Nat → Int64} {R R2 : kx_P} {n : Nat} (h : 93 ≤ n ∧ n ≤ 142) : mW M A L R n = mW M A L R2 n := by
  unfold mW
  by_cases h1 : n = 93
  · rw [if_pos h1, if_pos h1]
  · rw [if_neg h1, if_neg h1]
    by_cases h2 : n = 116 ∨ n = 142
    · rw [if_pos h2, if_pos h2]
    · rw [if_neg h2, if_neg h2]
      by_cases h3 : n = 117
      · rw [if_pos h3, if_pos h3]
      · rw [if_neg h3, if_neg h3, if_pos (by omega), if_pos (by omega)]
theorem ck_W_out {S : ck_S} {R : kx_P} {n : Nat} (h : ¬ (93 ≤ n ∧ n ≤ 142)) : ck_W S R n = R n := mW_out h
theorem ck_W_eq {S : ck_S} {P P2 : kx_P} (hP : P = ck_W S P) (o : ∀ n, 93 ≤ n → n ≤ 142 → P2 n = P n) : ck_W S P2 = P2 := by
  funext n
  by_cases h : 93 ≤ n ∧ n ≤ 142
  · rw [o n h.1 h.2]
    have h1 : ck_W S P2 n = ck_W S P n := mW_in h
    rw [h1, ← hP]
  · exact ck_W_out h
theorem ck_W_W {S : ck_S} {R : kx_P} : ck_W S R = ck_W S (ck_W S R) := by
  funext n
  by_cases h : 93 ≤ n ∧ n ≤ 142
  · exact mW_in h
  · rw [ck_W_out h, ck_W_out h, ck_W_out h]
/-- behind both calls they stand alike again -/
theorem cI_next {P P2 P3 : kx_P} {S1 S2 : ck_S} {cl mi se s1 s2 : Nat} {bl : Nat → Nat} (h : cR_af P P2 S1 cl mi se s1 bl) (hz : s1 ≤ s2) (hq : cq S1 S2) (o : ∀ n, ¬ (93 ≤ n ∧ n < 144) → P3 n = P2 n) : cI (ck_W S2 P3) s2 S2 cl mi se bl := by
  obtain ⟨sd, h1, h2, h3, -⟩ := h
  refine ⟨sd, h1.eq hq, h2.fr (fun n hn => (ck_W_out (by omega)).trans (o n (by omega))) hq, ?_, ck_W_W⟩
  exact cR_dy.fr h1 h3 hz (fun n hn => (ck_W_out (by omega)).trans (o n (by omega))) hq
def cLs (l : Launch) (G : kx_G) (yw : kx_S) (hh : List (Nat × Nat × Nat × Nat)) (ym : kx_S) (Aw Am : List Value) (P : kx_P) (sz se : Nat) (bl : Nat → Nat) : Prop :=
  ∃ (k : Int32) (dw dm mc ms cl1 mi1 se1 : Nat) (bl1 : Nat → Nat) (Q : kx_P → Nat → Prop), dw ≤ 51 ∧ dm ≤ 50 ∧ mc ≤ 8 ∧ ms + cro bl1 ≤ 2206 + cro bl ∧ se1 ≤ se + 1 ∧
    kx_Mw l G yw hh dw mc ms Aw P sz (fun r P2 s2 => r = some (.int k) ∧ Q P2 s2) ∧
    ∀ P2 s2, Q P2 s2 → (∃ fm, P2 93 = kO 11 fm) ∧ P2 3 = P 3 ∧
      kx_Mn l G ym dm 0 0 (.ref 93 :: Am) P2 s2 (fun r P3 s3 => s3 = s2 ∧ ∃ (v : Value) (S2 : ck_S) (go : Nat → Int64), r = some v ∧ cvT ym v ∧ S2.1 0 = k ∧ cI P3 s2 S2 cl1 mi1 se1 bl1 ∧ P3 3 = P 3 ∧ P3 143 = kL 1 go ∧ (k = 0 → go 0 = cv64 v))
def cLd (l : Launch) (G : kx_G) (yc ym : kx_S) (Ac Am : List Value) (P : kx_P) (sz se : Nat) (bl : Nat → Nat) : Prop :=
  ∃ (v : Value) (dc dm mc ms cl1 mi1 se1 : Nat) (bl1 : Nat → Nat) (Q : kx_P → Nat → Prop), dc ≤ 50 ∧ dm ≤ 50 ∧ mc ≤ 8 ∧ ms + cro bl1 ≤ 2206 + cro bl ∧ se1 ≤ se + 1 ∧ cvT ym v ∧
    kx_Mn l G yc dc mc ms (.ref 64 :: Ac) P sz (fun r P2 s2 => r = some v ∧ Q P2 s2) ∧
    ∀ P2 s2, Q P2 s2 → (∃ fm, P2 93 = kO 11 fm) ∧ P2 3 = P 3 ∧
      kx_Mn l G ym dm 0 0 (.ref 93 :: Am) P2 s2 (fun r P3 s3 => s3 = s2 ∧ r = some v ∧ ∃ (S2 : ck_S) (go : Nat → Int64), cI P3 s2 S2 cl1 mi1 se1 bl1 ∧ P3 3 = P 3 ∧ P3 143 = kL 1 go)
theorem cI_93 {P : kx_P} {sz : Nat} {S : ck_S} {cl mi se : Nat} {bl : Nat → Nat} (h : cI P sz S cl mi se bl) : P 93 = kO 11 (kf mR S.1) := by
  obtain ⟨-, -, -, -, h⟩ := h
  rw [h]
  exact mW_o
theorem cI_th (l : Launch) (G : kx_G) {P : kx_P} {sz : Nat} {S : ck_S} {cl mi se : Nat} {bl : Nat → Nat} (h : cI P sz S cl mi se bl) : kx_M l G sX11_thrown 1 0 0 [.ref 93] P sz (some (.int (S.1 0))) P sz := by
  obtain ⟨-, -, -, -, h⟩ := h
  have := ct_X11_thrown l G (M := S.1) (A := S.2.1) (L := S.2.2) (R := P) (sz := sz)
  have e : mW S.1 S.2.1 S.2.2 P = P := h.symm
  rw [e] at this
  exact this
theorem cI_k64 {P : kx_P} {sz : Nat} {S : ck_S} {cl mi se : Nat} {bl : Nat → Nat} (h : cI P sz S cl mi se bl) : ∃ f, P 64 = kO 10 f := by
  obtain ⟨sd, -, ⟨⟨K, h64, -⟩, -⟩, -⟩ := h
  exact ⟨_, h64⟩
theorem cSt.d {l : Launch} {G : kx_G} {yc ym : kx_S} {Ac Am : List Value} {P : kx_P} {sz : Nat} {S : ck_S} {cl mi se : Nat} {bl : Nat → Nat} {go : Nat → Int64} (h : cI P sz S cl mi se bl) (h143 : P 143 = kL 1 go) (hs : cSt l G yc ym Ac Am P sz S se bl) : cLd l G yc ym Ac Am P sz se bl := by
  obtain ⟨v, S1, dc, dm, mc, ms, cl1, mi1, se1, bl1, hT, a1, a2, a3, a4, a5, hc, hm⟩ := hs
  obtain ⟨-, -, -, -, hPW⟩ := id h
  refine ⟨v, dc, dm, mc, ms, cl1, mi1, se1, bl1, fun P2 s2 => sz ≤ s2 ∧ cR_af P P2 S1 cl1 mi1 se1 s2 bl1, a1, a2, a3, by omega, a5, hT, hc, fun P2 s2 hQ => ?_⟩
  obtain ⟨b1, b2⟩ := hQ
  have hfx : cR_fx P P2 := by
    obtain ⟨-, -, -, -, z⟩ := b2
    exact z
  have e0 : ck_W S P2 = P2 := ck_W_eq hPW (fun n n1 n2 => hfx n (by omega))
  have hm2 := hm P2 s2
  rw [e0] at hm2
  refine ⟨⟨_, (hfx 93 (by omega)).trans (cI_93 h)⟩, hfx 3 (by omega), hm2.imp (fun r P3 s3 ⟨c1, c2, S2, c3, c4, c5⟩ => ⟨c2, c1, S2, go, ?_, ?_, ?_⟩)⟩
  · rw [c3]
    exact cI_next b2 (Nat.le_refl _) c5 (fun _ _ => rfl)
  · rw [c3, ck_W_out (by omega)]
    exact hfx 3 (by omega)
  · rw [c3, ck_W_out (by omega)]
    exact (hfx 143 (by omega)).trans h143
theorem cSs.s {l : Launch} {G : kx_G} {yw yc ym : kx_S} {hh : List (Nat × Nat × Nat × Nat)} {Aw Ac Am : List Value} {P : kx_P} {sz : Nat} {S : ck_S} {cl mi se : Nat} {bl : Nat → Nat} {go : Nat → Int64} {ts : List (String × Int32)} (h : cI P sz S cl mi se bl) (h143 : P 143 = kL 1 go) (hs : cSs l G yc ym Ac Am P sz S se bl ts)
    (ht : ∀ (d mc ms : Nat) (Po : Option Value → kx_P → Nat → Prop), kx_Mn l G yc d mc ms (.ref 64 :: Ac) P sz Po → (∀ r P2 s2, Po r P2 s2 → ∃ (v : Value) (go : Nat → Int64), r = some v ∧ cvT ym v ∧ P2 143 = kL 1 go) → kx_Mw l G yw hh (d + 1) mc ms Aw P sz (cPt Po))
    (hx : ∀ p ∈ ts, ¬ p.2 = 0 ∧ ∀ d, kx_X l G yc d (.ref 64 :: Ac) P sz p.1 → kx_Mw l G yw hh (d + 1) 1 6 Aw P sz (cPx P sz p.2)) : cLs l G yw hh ym Aw Am P sz se bl := by
  obtain ⟨-, -, -, -, hPW⟩ := id h
  rcases hs with ⟨v, S1, dc, dm, mc, ms, cl1, mi1, se1, bl1, hT, a1, a2, a3, a4, a5, hc, hm⟩ | ⟨p, hp, dc, dm, a1, a2, hc, hm⟩
  · have hw := ht dc mc ms _ hc (fun r P2 s2 ⟨z1, z2, sd, _, _, _, z3⟩ => ⟨v, go, z1, hT, (z3 143 (by omega)).trans h143⟩)
    refine ⟨0, dc + 1, dm, mc, ms, cl1, mi1, se1, bl1, fun P2 s2 => ∃ (P1 : kx_P) (g1 : Nat → Int64), sz ≤ s2 ∧ cR_af P P1 S1 cl1 mi1 se1 s2 bl1 ∧ P2 = kx_set P1 143 (kL 1 (vp_updL g1 0 (cv64 v))), by omega, a2, a3, by omega, a5, hw.imp (fun r P2 s2 ⟨v2, P1, g1, ⟨z1, z2, z3⟩, z4, z5, z6⟩ => ⟨z4, P1, g1, z2, z3, by rw [← Option.some.inj z1]; exact z6⟩), fun P2 s2 hQ => ?_⟩
    obtain ⟨P1, g1, b1, b2, b3⟩ := hQ
    have hfx : cR_fx P P1 := by
      obtain ⟨-, -, -, -, z⟩ := b2
      exact z
    have o2 : ∀ n, ¬ n = 143 → P2 n = P1 n := fun n hn => by rw [b3]; exact ks_ne hn
    have e143 : P2 143 = kL 1 (vp_updL g1 0 (cv64 v)) := by rw [b3]; exact ks_eq _ _ _
    have e0 : ck_W S P2 = P2 := ck_W_eq hPW (fun n n1 n2 => (o2 n (by omega)).trans (hfx n (by omega)))
    have hm2 := hm P2 s2
    rw [e0] at hm2
    refine ⟨⟨_, (o2 93 (by omega)).trans ((hfx 93 (by omega)).trans (cI_93 h))⟩, (o2 3 (by omega)).trans (hfx 3 (by omega)), hm2.imp (fun r P3 s3 ⟨c1, c2, S2, c3, c4, c5⟩ => ⟨c2, v, S2, vp_updL g1 0 (cv64 v), c1, hT, c4, ?_, ?_, ?_, fun _ => pk_uLs⟩)⟩
    · rw [c3]
      exact cI_next b2 (Nat.le_refl _) c5 (fun n hn => o2 n (by omega))
    · rw [c3, ck_W_out (by omega)]
      exact (o2 3 (by omega)).trans (hfx 3 (by omega))
    · rw [c3, ck_W_out (by omega)]
      exact e143
  · obtain ⟨hne, hw⟩ := hx p hp
    refine ⟨p.2, dc + 1, dm, 1, 6, cl, mi, se, bl, fun P2 s2 => P2 = P ∧ sz ≤ s2, by omega, a2, by decide, by omega, by omega, (hw dc hc).imp (fun r P2 s2 ⟨z1, z2, z3⟩ => ⟨z1, z2, z3⟩), fun P2 s2 hQ => ?_⟩
    obtain ⟨rfl, b2⟩ := hQ
    have hm2 := hm P2 s2
    rw [← hPW] at hm2
    refine ⟨⟨_, cI_93 h⟩, rfl, hm2.imp (fun r P3 s3 ⟨⟨v, c1, cT⟩, c2, S2, c3, c4, c5⟩ => ⟨c2, v, S2, go, c1, cT, c4, ?_, ?_, ?_, fun z => absurd z hne⟩)⟩
    · rw [c3]
      exact cI_next h.af b2 c5 (fun _ _ => rfl)
    · rw [c3]
      exact ck_W_out (by omega)
    · rw [c3, ck_W_out (by omega)]
      exact h143
theorem cSs.n {l : Launch} {G : kx_G} {yc ym : kx_S} {Ac Am : List Value} {P : kx_P} {sz : Nat} {S : ck_S} {se : Nat} {bl : Nat → Nat} (hs : cSs l G yc ym Ac Am P sz S se bl []) : cSt l G yc ym Ac Am P sz S se bl := by
  rcases hs with h | ⟨p, hp, -⟩
  · exact h
  · cases hp
/-- what the law's loop goes on with -/
def cAf (g : kx_F) (Ln : Nat) (xs : Nat → Int32) (i se k n : Nat) (bl : Nat → Nat) : Prop :=
  ∀ (P : kx_P) (sz : Nat) (S : ck_S) (cl mi se' : Nat) (bl' : Nat → Nat) (go : Nat → Int64) (k' n' : Nat) (o5 o6 o7 : Option Value), cI P sz S cl mi se' bl' → P 3 = kI 5 Ln xs → P 143 = kL 1 go → se' ≤ se + 1 → k' ≤ k + 8 → n' + cro bl' ≤ n + cro bl + 2206 →
    g 2443 [some (.ref 3), some (.ref 64), some (.ref 93), some (.ref 143), some (.int (nI i)), o5, o6, o7] [] P sz k' n'
theorem lg_cmp_s (x : Int64) : lg_cmp x x = 0 := by
  unfold lg_cmp
  first | (rw [if_neg (Int64.lt_irrefl x)]; simp) | simp
abbrev sL_law_ : kx_S := (yL_law_, cL_law_, 8, some .boolean)

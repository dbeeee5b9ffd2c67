/-! the reader of texts: where it stands (a), its fault (b, k), brackets (o), steps (c, C, N); T is the tape, n the text's length -/
def ck_pM (M : Nat → Int32) (a : Nat) (b k o : Int32) (c : Nat) : Nat → Int32 := fun j => if j = 7 then nI a else if j = 8 then b else if j = 9 then k else if j = 11 then o else if j = 12 then nI c else M j
def ck_pA (A : Nat → Nat → Int32) (C N : Nat → Int32) : Nat → Nat → Int32 := fun i => if i = 97 then C else if i = 98 then N else A i
theorem ck_p7 (M a b k o c) : ck_pM M a b k o c 7 = nI a := rfl
theorem ck_p8 (M a b k o c) : ck_pM M a b k o c 8 = b := rfl
theorem ck_p11 (M a b k o c) : ck_pM M a b k o c 11 = o := rfl
theorem ck_p12 (M a b k o c) : ck_pM M a b k o c 12 = nI c := rfl
theorem ck_p6 (M a b k o c) : ck_pM M a b k o c 6 = M 6 := rfl
theorem ck_p10 (M a b k o c) : ck_pM M a b k o c 10 = M 10 := rfl
theorem ck_p13 (M a b k o c) : ck_pM M a b k o c 13 = M 13 := rfl
theorem ck_p15 (M a b k o c) : ck_pM M a b k o c 15 = M 15 := rfl
theorem ck_pu7 (M a b k o c) (x : Nat) : upd (ck_pM M a b k o c) 7 (nI x) = ck_pM M x b k o c := by
  funext j; unfold upd ck_pM; by_cases h : j = 7
  · subst h; rfl
  · rw [if_neg h, if_neg h, if_neg h]
theorem ck_pu11 (M a b k o c) (x : Int32) : upd (ck_pM M a b k o c) 11 x = ck_pM M a b k x c := by
  funext j; unfold upd ck_pM; by_cases h : j = 11
  · subst h; rfl
  · simp only [if_neg h]
theorem ck_pu12 (M a b k o c) (x : Nat) : upd (ck_pM M a b k o c) 12 (nI x) = ck_pM M a b k o x := by
  funext j; unfold upd ck_pM; by_cases h : j = 12
  · subst h; rfl
  · simp only [if_neg h]
theorem ck_puo (M a b k o c) {i : Nat} (x : Int32) (hi : i ≠ 7 ∧ i ≠ 8 ∧ i ≠ 9 ∧ i ≠ 11 ∧ i ≠ 12) : upd (ck_pM M a b k o c) i x = ck_pM (upd M i x) a b k o c := by
  funext j; unfold upd ck_pM; by_cases h : j = i
  · subst h; rw [if_pos rfl, if_neg hi.1, if_neg hi.2.1, if_neg hi.2.2.1, if_neg hi.2.2.2.1, if_neg hi.2.2.2.2]; exact (if_pos rfl).symm
  · simp only [if_neg h]
theorem ck_pu10 (M a b k o c) (x : Int32) : upd (ck_pM M a b k o c) 10 x = ck_pM (upd M 10 x) a b k o c := ck_puo M a b k o c x (by decide)
theorem ck_pu13 (M a b k o c) (x : Int32) : upd (ck_pM M a b k o c) 13 x = ck_pM (upd M 13 x) a b k o c := ck_puo M a b k o c x (by decide)
theorem ck_pu15 (M a b k o c) (x : Int32) : upd (ck_pM M a b k o c) 15 x = ck_pM (upd M 15 x) a b k o c := ck_puo M a b k o c x (by decide)
theorem ck_pwr (M a b k o c) (kd pl : Int32) : ck_wrong (ck_pM M a b k o c) kd pl = if b = -1 then ck_pM M a pl kd o c else ck_pM M a b k o c := by
  unfold ck_wrong
  rw [ck_p8]
  split
  · funext j; unfold upd ck_pM
    by_cases h9 : j = 9
    · subst h9; rfl
    · by_cases h8 : j = 8
      · subst h8; rfl
      · simp only [if_neg h8, if_neg h9]
  · rfl
theorem ck_pwt (M a k o c) (kd pl : Int32) : ck_wrong (ck_pM M a (-1) k o c) kd pl = ck_pM M a pl kd o c := by rw [ck_pwr, if_pos rfl]
theorem ck_pa95 (A C N) : ck_pA A C N 95 = A 95 := rfl
theorem ck_pa96 (A C N) : ck_pA A C N 96 = A 96 := rfl
theorem ck_pa99 (A C N) : ck_pA A C N 99 = A 99 := rfl
theorem ck_pem (A C N) (x y : Nat → Int32) : va_up (va_up (ck_pA A C N) 97 x) 98 y = ck_pA A x y := by
  funext i; unfold va_up ck_pA
  by_cases h8 : i = 98
  · subst h8; rfl
  · by_cases h7 : i = 97
    · subst h7; rfl
    · simp only [if_neg h7, if_neg h8]
theorem ck_pa97 (A C N) : ck_pA A C N 97 = C := rfl
theorem ck_pa98 (A C N) : ck_pA A C N 98 = N := rfl
theorem ck_pau96 (A C N x) : va_up (ck_pA A C N) 96 x = ck_pA (va_up A 96 x) C N := by
  funext i; unfold va_up ck_pA
  by_cases h : i = 96
  · subst h; rfl
  · simp only [if_neg h]
theorem ck_pau99 (A C N x) : va_up (ck_pA A C N) 99 x = ck_pA (va_up A 99 x) C N := by
  funext i; unfold va_up ck_pA
  by_cases h : i = 99
  · subst h; rfl
  · simp only [if_neg h]
def ck_skf (T : Nat → Int32) : Nat → Nat → Nat
  | 0, a => a
  | f + 1, a => if T a = 32 then ck_skf T f (a + 1) else a
/-- blanks are passed over -/
def ck_sk (T : Nat → Int32) (n a : Nat) : Nat := ck_skf T (n - a) a
/-- what stands behind them; 0 at the end -/
def ck_hcx (T : Nat → Int32) (n a : Nat) : Int32 := if ck_sk T n a < n then T (ck_sk T n a) else 0
def ck_psf (T : Nat → Int32) : Nat → Nat → Nat
  | 0, a => a
  | f + 1, a => if 97 ≤ T a ∧ T a ≤ 122 then ck_psf T f (a + 1) else a
def ck_ps (T : Nat → Int32) (n a : Nat) : Nat := ck_psf T (n - a) a
def ck_wof (T : Nat → Int32) : Nat → Nat → Int64 → Nat → Int64 × Nat
  | 0, _, v, m => (v, m)
  | f + 1, a, v, m => if 97 ≤ T a ∧ T a ≤ 122 then ck_wof T f (a + 1) (if m < 8 then (v <<< ((5 : Int32).toInt64 &&& 63)) ||| (T a - 96).toInt64 else 0) (m + 1) else (v, m)
/-- a word's letters as a number -/
def ck_wo_ (T : Nat → Int32) (n a : Nat) : Int64 := if 8 < (ck_wof T (n - a) a 0 0).2 then 0 else (ck_wof T (n - a) a 0 0).1
def ck_dgf (T : Nat → Int32) : Nat → Nat → Int32 → Int32 × Nat
  | 0, a, v => (v, a)
  | f + 1, a, v => if 48 ≤ T a ∧ T a ≤ 57 then ck_dgf T f (a + 1) (if 10000 < v then 100000 else 10 * v + T a - 48) else (v, a)
theorem ck_skf_le (T : Nat → Int32) : ∀ f a, a ≤ ck_skf T f a ∧ ck_skf T f a ≤ a + f
  | 0, a => ⟨Nat.le_refl _, Nat.le_refl _⟩
  | f + 1, a => by
    unfold ck_skf
    split
    · have := ck_skf_le T f (a + 1); omega
    · omega
theorem ck_psf_le (T : Nat → Int32) : ∀ f a, a ≤ ck_psf T f a ∧ ck_psf T f a ≤ a + f
  | 0, a => ⟨Nat.le_refl _, Nat.le_refl _⟩
  | f + 1, a => by
    unfold ck_psf
    split
    · have := ck_psf_le T f (a + 1); omega
    · omega
theorem ck_dgf_le (T : Nat → Int32) : ∀ f a v, a ≤ (ck_dgf T f a v).2 ∧ (ck_dgf T f a v).2 ≤ a + f
  | 0, a, v => ⟨Nat.le_refl _, Nat.le_refl _⟩
  | f + 1, a, v => by
    unfold ck_dgf
    split
    · have := ck_dgf_le T f (a + 1) (if 10000 < v then 100000 else 10 * v + T a - 48); omega
    · dsimp only; omega
theorem ck_sk_le (T : Nat → Int32) {n a : Nat} (h : a ≤ n) : a ≤ ck_sk T n a ∧ ck_sk T n a ≤ n := by
  have := ck_skf_le T (n - a) a; unfold ck_sk; omega
theorem ck_ps_le (T : Nat → Int32) {n a : Nat} (h : a ≤ n) : a ≤ ck_ps T n a ∧ ck_ps T n a ≤ n := by
  have := ck_psf_le T (n - a) a; unfold ck_ps; omega

def bX11_here_0 : List kx_O := [(.aload_n 0, 0, 0, 0, .null), (.getfield 198, 11, 7, 0, .null), (.aload_n 0, 0, 0, 0, .null), (.getfield 201, 11, 6, 0, .null), (.if_icmp .ge 30, 38, 0, 0, .null)]
theorem kX11_here_0 : kx_oks kxL_X11 false cX11_here 0 bX11_here_0 = true := by decide +kernel
def bX11_here_11 : List kx_O := [(.aload_n 0, 0, 0, 0, .null), (.getfield 20, 11, 16, 0, .null), (.aload_n 0, 0, 0, 0, .null), (.getfield 198, 11, 7, 0, .null), (.iaload, 0, 0, 0, .null), (.bipush 32, 0, 0, 0, .int 32), (.if_icmp .ne 16, 38, 0, 0, .null)]
theorem kX11_here_11 : kx_oks kxL_X11 false cX11_here 11 bX11_here_11 = true := by decide +kernel
def bX11_here_25 : List kx_O := [(.aload_n 0, 0, 0, 0, .null), (.dup, 0, 0, 0, .null), (.getfield 198, 11, 7, 0, .null), (.iconst 1, 0, 0, 0, .int 1), (.iadd, 0, 0, 0, .null), (.putfield 198, 11, 7, 0, .null), (.goto (-35), 0, 0, 0, .null)]
theorem kX11_here_25 : kx_oks kxL_X11 false cX11_here 25 bX11_here_25 = true := by decide +kernel
def bX11_here_38 : List kx_O := [(.aload_n 0, 0, 0, 0, .null), (.getfield 198, 11, 7, 0, .null), (.aload_n 0, 0, 0, 0, .null), (.getfield 201, 11, 6, 0, .null), (.if_icmp .ge 15, 61, 0, 0, .null)]
theorem kX11_here_38 : kx_oks kxL_X11 false cX11_here 38 bX11_here_38 = true := by decide +kernel
def bX11_here_49 : List kx_O := [(.aload_n 0, 0, 0, 0, .null), (.getfield 20, 11, 16, 0, .null), (.aload_n 0, 0, 0, 0, .null), (.getfield 198, 11, 7, 0, .null), (.iaload, 0, 0, 0, .null), (.goto 4, 62, 0, 0, .null)]
theorem kX11_here_49 : kx_oks kxL_X11 false cX11_here 49 bX11_here_49 = true := by decide +kernel
def bX11_here_61 : List kx_O := [(.iconst 0, 0, 0, 0, .int 0)]
theorem kX11_here_61 : kx_oks kxL_X11 false cX11_here 61 bX11_here_61 = true := by decide +kernel
def bX11_here_62 : List kx_O := [(.ireturn, 0, 0, 0, .null)]
theorem kX11_here_62 : kx_oks kxL_X11 false cX11_here 62 bX11_here_62 = true := by decide +kernel
set_option maxRecDepth 100000 in
set_option maxHeartbeats 4000000 in
theorem ct_X11_here (l : Launch) (G : kx_G) {M : Nat → Int32} {A : Nat → Nat → Int32} {L : Nat → Nat → Int64} {R : kx_P} {sz : Nat} {a c n : Nat} {b k o : Int32} {C N : Nat → Int32} (h6 : M 6 = nI n) (hn : n ≤ 400) (ha : a ≤ n)  : kx_M l G sX11_here 1 0 0 [.ref 93] (mW (ck_pM M a b k o c) (ck_pA A C N) L R) sz (some (.int (ck_hcx (A 95) n a))) (mW (ck_pM M (ck_sk (A 95) n a) b k o c) (ck_pA A C N) L R) sz := by
  unfold ck_hcx
  have zsk := ck_sk_le (A 95) ha
  generalize hSS : ck_sk (A 95) n a = SS at zsk ⊢
  replace hSS := hSS.symm
  unfold ck_sk at hSS
  refine kx_mk kx_tab kxLok_X11 (ini := false) [some (.ref 93)] ⟨by decide, rfl, by decide, by decide⟩ (⟨_, rfl⟩) rfl rfl (fun g hB hC => ?_)
  have j38 : g 38 [some (.ref 93)] [] (mW (ck_pM M SS b k o c) (ck_pA A C N) L R) sz 0 0 := by
    by_cases hlt : SS < n
    · skip
      refine hB bX11_here_38 _ _ _ _ _ _ _ kX11_here_38 ?_
      dsimp only [bX11_here_38, kx_wp, kx_step, kx_lI, kx_lL, kx_lA, kx_gl, kx_pI, kx_pL, kx_pR, kx_pA, kx_pV, kx_s1, kx_s2, kx_sl, kx_pre, kx_c2, kx_pl, kx_cmp, kx_oF, kx_eqN, kx_nil, kx_c1, kx_ft, kx_aI, kx_aL, kx_aR, kx_ln, Nat.reduceAdd, Option.toList, List.cons_append, List.nil_append, mW_o, mf_7, mf_6, mf_16, m_95]
      repeat (simp only [ms_95, mu_7, mW_so, ck_p6, ck_p7, ck_p8, ck_p10, ck_p11, ck_p12, ck_p13, ck_p15, h6, nI_1, ck_pu7, ck_pu10, ck_pu11, ck_pu12, ck_pu13, ck_pu15, ck_pa95, ck_pa96, ck_pa97, ck_pa98, ck_pa99, ck_pem, ck_pau96, ck_pau99, va_us, va_upn, ne_eq, Nat.reduceEqDiff, not_false_eq_true, nI_clamp (show SS < 2 ^ 31 by omega)]; try dsimp only [kx_wp, kx_step, kx_lI, kx_lL, kx_lA, kx_gl, kx_pI, kx_pL, kx_pR, kx_pA, kx_pV, kx_s1, kx_s2, kx_sl, kx_pre, kx_c2, kx_pl, kx_cmp, kx_oF, kx_eqN, kx_nil, kx_c1, kx_ft, kx_aI, kx_aL, kx_aR, kx_ln, Nat.reduceAdd, Option.toList, List.cons_append, List.nil_append, mW_o, mf_7, mf_6, mf_16, m_95])
      repeat' apply And.intro
      all_goals try (first | with_reducible assumption | (with_reducible refine ck_nzI ?_; simp; done) | (with_reducible refine ck_nzL ?_; simp; done) | (with_reducible refine vp_in_nI ?_ ?_ <;> first | omega | decide) | (with_reducible refine Nat.le_of_ble_eq_true ?_; rfl) | omega)
      · intro zc46
        first | exact absurd rfl zc46 | exact absurd zc46 (by decide) | exact absurd (by decide) zc46 | (exfalso; first | exact absurd zc46 (by first | (simp only [nI_leI (show n < 2 ^ 31 by omega) (show SS < 2 ^ 31 by omega)]; omega) | (simp only [nI_leI (show n < 2 ^ 31 by omega) (show SS < 2 ^ 31 by omega), Decidable.not_not]; omega))) | (exfalso; simp_all; done)
      · intro zc46
        with_reducible first | have ze46 := Int32.not_le.mp zc46 | have ze46 := zc46
        refine hB bX11_here_49 _ _ _ _ _ _ _ kX11_here_49 ?_
        dsimp only [bX11_here_49, kx_wp, kx_step, kx_lI, kx_lL, kx_lA, kx_gl, kx_pI, kx_pL, kx_pR, kx_pA, kx_pV, kx_s1, kx_s2, kx_sl, kx_pre, kx_c2, kx_pl, kx_cmp, kx_oF, kx_eqN, kx_nil, kx_c1, kx_ft, kx_aI, kx_aL, kx_aR, kx_ln, Nat.reduceAdd, Option.toList, List.cons_append, List.nil_append, mW_o, mf_7, mf_6, mf_16, m_95]
        repeat (simp only [ms_95, mu_7, mW_so, ck_p6, ck_p7, ck_p8, ck_p10, ck_p11, ck_p12, ck_p13, ck_p15, h6, nI_1, ck_pu7, ck_pu10, ck_pu11, ck_pu12, ck_pu13, ck_pu15, ck_pa95, ck_pa96, ck_pa97, ck_pa98, ck_pa99, ck_pem, ck_pau96, ck_pau99, va_us, va_upn, ne_eq, Nat.reduceEqDiff, not_false_eq_true, nI_clamp (show SS < 2 ^ 31 by omega)]; try dsimp only [kx_wp, kx_step, kx_lI, kx_lL, kx_lA, kx_gl, kx_pI, kx_pL, kx_pR, kx_pA, kx_pV, kx_s1, kx_s2, kx_sl, kx_pre, kx_c2, kx_pl, kx_cmp, kx_oF, kx_eqN, kx_nil, kx_c1, kx_ft, kx_aI, kx_aL, kx_aR, kx_ln, Nat.reduceAdd, Option.toList, List.cons_append, List.nil_append, mW_o, mf_7, mf_6, mf_16, m_95])
        repeat' apply And.intro
        all_goals try (first | with_reducible assumption | (with_reducible refine ck_nzI ?_; simp; done) | (with_reducible refine ck_nzL ?_; simp; done) | (with_reducible refine vp_in_nI ?_ ?_ <;> first | omega | decide) | (with_reducible refine Nat.le_of_ble_eq_true ?_; rfl) | omega)
        refine hB bX11_here_62 _ _ _ _ _ _ _ kX11_here_62 ?_
        dsimp only [bX11_here_62, kx_wp, kx_step, kx_lI, kx_lL, kx_lA, kx_gl, kx_pI, kx_pL, kx_pR, kx_pA, kx_pV, kx_s1, kx_s2, kx_sl, kx_pre, kx_c2, kx_pl, kx_cmp, kx_oF, kx_eqN, kx_nil, kx_c1, kx_ft, kx_aI, kx_aL, kx_aR, kx_ln, Nat.reduceAdd, Option.toList, List.cons_append, List.nil_append, mW_o, mf_7, mf_6, mf_16, m_95]
        repeat (simp only [ms_95, mu_7, mW_so, ck_p6, ck_p7, ck_p8, ck_p10, ck_p11, ck_p12, ck_p13, ck_p15, h6, nI_1, ck_pu7, ck_pu10, ck_pu11, ck_pu12, ck_pu13, ck_pu15, ck_pa95, ck_pa96, ck_pa97, ck_pa98, ck_pa99, ck_pem, ck_pau96, ck_pau99, va_us, va_upn, ne_eq, Nat.reduceEqDiff, not_false_eq_true, nI_clamp (show SS < 2 ^ 31 by omega)]; try dsimp only [kx_wp, kx_step, kx_lI, kx_lL, kx_lA, kx_gl, kx_pI, kx_pL, kx_pR, kx_pA, kx_pV, kx_s1, kx_s2, kx_sl, kx_pre, kx_c2, kx_pl, kx_cmp, kx_oF, kx_eqN, kx_nil, kx_c1, kx_ft, kx_aI, kx_aL, kx_aR, kx_ln, Nat.reduceAdd, Option.toList, List.cons_append, List.nil_append, mW_o, mf_7, mf_6, mf_16, m_95])
        all_goals (repeat' apply And.intro)
        all_goals ((try clear hB hC); first | exact True.intro | with_reducible rfl | with_reducible assumption | (with_reducible refine vp_in_nI ?_ ?_ <;> first | omega | decide) | exact Nat.le_of_ble_eq_true rfl | (with_reducible refine ck_nzI ?_; simp; done) | (with_reducible refine ck_nzL ?_; simp; done) | (simp only [pk_us, pk_uLs, zc46, ze46, ↓reduceIte, not_true_eq_false, not_false_eq_true, hlt]; done) | (simp only [zc46, ze46, ↓reduceIte, not_true_eq_false, not_false_eq_true, hlt]; with_reducible rfl) | skip)
    · skip
      refine hB bX11_here_38 _ _ _ _ _ _ _ kX11_here_38 ?_
      dsimp only [bX11_here_38, kx_wp, kx_step, kx_lI, kx_lL, kx_lA, kx_gl, kx_pI, kx_pL, kx_pR, kx_pA, kx_pV, kx_s1, kx_s2, kx_sl, kx_pre, kx_c2, kx_pl, kx_cmp, kx_oF, kx_eqN, kx_nil, kx_c1, kx_ft, kx_aI, kx_aL, kx_aR, kx_ln, Nat.reduceAdd, Option.toList, List.cons_append, List.nil_append, mW_o, mf_7, mf_6, mf_16, m_95]
      repeat (simp only [ms_95, mu_7, mW_so, ck_p6, ck_p7, ck_p8, ck_p10, ck_p11, ck_p12, ck_p13, ck_p15, h6, nI_1, ck_pu7, ck_pu10, ck_pu11, ck_pu12, ck_pu13, ck_pu15, ck_pa95, ck_pa96, ck_pa97, ck_pa98, ck_pa99, ck_pem, ck_pau96, ck_pau99, va_us, va_upn, ne_eq, Nat.reduceEqDiff, not_false_eq_true, nI_clamp (show SS < 2 ^ 31 by omega)]; try dsimp only [kx_wp, kx_step, kx_lI, kx_lL, kx_lA, kx_gl, kx_pI, kx_pL, kx_pR, kx_pA, kx_pV, kx_s1, kx_s2, kx_sl, kx_pre, kx_c2, kx_pl, kx_cmp, kx_oF, kx_eqN, kx_nil, kx_c1, kx_ft, kx_aI, kx_aL, kx_aR, kx_ln, Nat.reduceAdd, Option.toList, List.cons_append, List.nil_append, mW_o, mf_7, mf_6, mf_16, m_95])
      repeat' apply And.intro
      all_goals try (first | with_reducible assumption | (with_reducible refine ck_nzI ?_; simp; done) | (with_reducible refine ck_nzL ?_; simp; done) | (with_reducible refine vp_in_nI ?_ ?_ <;> first | omega | decide) | (with_reducible refine Nat.le_of_ble_eq_true ?_; rfl) | omega)
      · intro zc46
        with_reducible first | have ze46 := Int32.not_lt.mpr zc46 | have ze46 := zc46
        refine hB bX11_here_61 _ _ _ _ _ _ _ kX11_here_61 ?_
        dsimp only [bX11_here_61, kx_wp, kx_step, kx_lI, kx_lL, kx_lA, kx_gl, kx_pI, kx_pL, kx_pR, kx_pA, kx_pV, kx_s1, kx_s2, kx_sl, kx_pre, kx_c2, kx_pl, kx_cmp, kx_oF, kx_eqN, kx_nil, kx_c1, kx_ft, kx_aI, kx_aL, kx_aR, kx_ln, Nat.reduceAdd, Option.toList, List.cons_append, List.nil_append, mW_o, mf_7, mf_6, mf_16, m_95]
        repeat (simp only [ms_95, mu_7, mW_so, ck_p6, ck_p7, ck_p8, ck_p10, ck_p11, ck_p12, ck_p13, ck_p15, h6, nI_1, ck_pu7, ck_pu10, ck_pu11, ck_pu12, ck_pu13, ck_pu15, ck_pa95, ck_pa96, ck_pa97, ck_pa98, ck_pa99, ck_pem, ck_pau96, ck_pau99, va_us, va_upn, ne_eq, Nat.reduceEqDiff, not_false_eq_true, nI_clamp (show SS < 2 ^ 31 by omega)]; try dsimp only [kx_wp, kx_step, kx_lI, kx_lL, kx_lA, kx_gl, kx_pI, kx_pL, kx_pR, kx_pA, kx_pV, kx_s1, kx_s2, kx_sl, kx_pre, kx_c2, kx_pl, kx_cmp, kx_oF, kx_eqN, kx_nil, kx_c1, kx_ft, kx_aI, kx_aL, kx_aR, kx_ln, Nat.reduceAdd, Option.toList, List.cons_append, List.nil_append, mW_o, mf_7, mf_6, mf_16, m_95])
        repeat' apply And.intro
        all_goals try (first | with_reducible assumption | (with_reducible refine ck_nzI ?_; simp; done) | (with_reducible refine ck_nzL ?_; simp; done) | (with_reducible refine vp_in_nI ?_ ?_ <;> first | omega | decide) | (with_reducible refine Nat.le_of_ble_eq_true ?_; rfl) | omega)
        refine hB bX11_here_62 _ _ _ _ _ _ _ kX11_here_62 ?_
        dsimp only [bX11_here_62, kx_wp, kx_step, kx_lI, kx_lL, kx_lA, kx_gl, kx_pI, kx_pL, kx_pR, kx_pA, kx_pV, kx_s1, kx_s2, kx_sl, kx_pre, kx_c2, kx_pl, kx_cmp, kx_oF, kx_eqN, kx_nil, kx_c1, kx_ft, kx_aI, kx_aL, kx_aR, kx_ln, Nat.reduceAdd, Option.toList, List.cons_append, List.nil_append, mW_o, mf_7, mf_6, mf_16, m_95]
        repeat (simp only [ms_95, mu_7, mW_so, ck_p6, ck_p7, ck_p8, ck_p10, ck_p11, ck_p12, ck_p13, ck_p15, h6, nI_1, ck_pu7, ck_pu10, ck_pu11, ck_pu12, ck_pu13, ck_pu15, ck_pa95, ck_pa96, ck_pa97, ck_pa98, ck_pa99, ck_pem, ck_pau96, ck_pau99, va_us, va_upn, ne_eq, Nat.reduceEqDiff, not_false_eq_true, nI_clamp (show SS < 2 ^ 31 by omega)]; try dsimp only [kx_wp, kx_step, kx_lI, kx_lL, kx_lA, kx_gl, kx_pI, kx_pL, kx_pR, kx_pA, kx_pV, kx_s1, kx_s2, kx_sl, kx_pre, kx_c2, kx_pl, kx_cmp, kx_oF, kx_eqN, kx_nil, kx_c1, kx_ft, kx_aI, kx_aL, kx_aR, kx_ln, Nat.reduceAdd, Option.toList, List.cons_append, List.nil_append, mW_o, mf_7, mf_6, mf_16, m_95])
        all_goals (repeat' apply And.intro)
        all_goals ((try clear hB hC); first | exact True.intro | with_reducible rfl | with_reducible assumption | (with_reducible refine vp_in_nI ?_ ?_ <;> first | omega | decide) | exact Nat.le_of_ble_eq_true rfl | (with_reducible refine ck_nzI ?_; simp; done) | (with_reducible refine ck_nzL ?_; simp; done) | (simp only [pk_us, pk_uLs, zc46, ze46, ↓reduceIte, not_true_eq_false, not_false_eq_true, hlt]; done) | (simp only [zc46, ze46, ↓reduceIte, not_true_eq_false, not_false_eq_true, hlt]; with_reducible rfl) | skip)
      · intro zc46
        first | exact absurd rfl zc46 | exact absurd zc46 (by decide) | exact absurd (by decide) zc46 | (exfalso; first | exact absurd zc46 (by first | (simp only [nI_leI (show n < 2 ^ 31 by omega) (show SS < 2 ^ 31 by omega)]; omega) | (simp only [nI_leI (show n < 2 ^ 31 by omega) (show SS < 2 ^ 31 by omega), Decidable.not_not]; omega))) | (exfalso; simp_all; done)
  have loop0 : ∀ (n9 a : Nat), a + n9 = n → SS = ck_skf (A 95) n9 a → g 0 [some (.ref 93)] [] (mW (ck_pM M a b k o c) (ck_pA A C N) L R) sz 0 0 := by
    intro n9
    induction n9 with
    | zero =>
      intro a ha hE
      rw [ck_skf] at hE
      subst hE
      refine hB bX11_here_0 _ _ _ _ _ _ _ kX11_here_0 ?_
      dsimp only [bX11_here_0, kx_wp, kx_step, kx_lI, kx_lL, kx_lA, kx_gl, kx_pI, kx_pL, kx_pR, kx_pA, kx_pV, kx_s1, kx_s2, kx_sl, kx_pre, kx_c2, kx_pl, kx_cmp, kx_oF, kx_eqN, kx_nil, kx_c1, kx_ft, kx_aI, kx_aL, kx_aR, kx_ln, Nat.reduceAdd, Option.toList, List.cons_append, List.nil_append, mW_o, mf_7, mf_6, mf_16, m_95]
      repeat (simp only [ms_95, mu_7, mW_so, ck_p6, ck_p7, ck_p8, ck_p10, ck_p11, ck_p12, ck_p13, ck_p15, h6, nI_1, ck_pu7, ck_pu10, ck_pu11, ck_pu12, ck_pu13, ck_pu15, ck_pa95, ck_pa96, ck_pa97, ck_pa98, ck_pa99, ck_pem, ck_pau96, ck_pau99, va_us, va_upn, ne_eq, Nat.reduceEqDiff, not_false_eq_true]; try dsimp only [kx_wp, kx_step, kx_lI, kx_lL, kx_lA, kx_gl, kx_pI, kx_pL, kx_pR, kx_pA, kx_pV, kx_s1, kx_s2, kx_sl, kx_pre, kx_c2, kx_pl, kx_cmp, kx_oF, kx_eqN, kx_nil, kx_c1, kx_ft, kx_aI, kx_aL, kx_aR, kx_ln, Nat.reduceAdd, Option.toList, List.cons_append, List.nil_append, mW_o, mf_7, mf_6, mf_16, m_95])
      repeat' apply And.intro
      all_goals try (first | with_reducible assumption | (with_reducible refine ck_nzI ?_; simp; done) | (with_reducible refine ck_nzL ?_; simp; done) | (with_reducible refine vp_in_nI ?_ ?_ <;> first | omega | decide) | (with_reducible refine Nat.le_of_ble_eq_true ?_; rfl) | omega)
      · intro zc8
        with_reducible first | have ze8 := Int32.not_lt.mpr zc8 | have ze8 := zc8
        all_goals exact j38
      · intro zc8
        first | exact absurd rfl zc8 | exact absurd zc8 (by decide) | exact absurd (by decide) zc8 | (exfalso; first | exact absurd zc8 (by first | (simp only [nI_leI (show n < 2 ^ 31 by omega) (show SS < 2 ^ 31 by omega)]; omega) | (simp only [nI_leI (show n < 2 ^ 31 by omega) (show SS < 2 ^ 31 by omega), Decidable.not_not]; omega)) | exact hb zc22 | exact zc22 hb | exact hb (Decidable.not_not.mp zc22)) | (exfalso; simp_all; done)
    | succ n9 ih =>
      intro a ha hE
      rw [ck_skf] at hE
      by_cases hb : A 95 a = 32
      · rw [if_pos hb] at hE
        refine hB bX11_here_0 _ _ _ _ _ _ _ kX11_here_0 ?_
        dsimp only [bX11_here_0, kx_wp, kx_step, kx_lI, kx_lL, kx_lA, kx_gl, kx_pI, kx_pL, kx_pR, kx_pA, kx_pV, kx_s1, kx_s2, kx_sl, kx_pre, kx_c2, kx_pl, kx_cmp, kx_oF, kx_eqN, kx_nil, kx_c1, kx_ft, kx_aI, kx_aL, kx_aR, kx_ln, Nat.reduceAdd, Option.toList, List.cons_append, List.nil_append, mW_o, mf_7, mf_6, mf_16, m_95]
        repeat (simp only [ms_95, mu_7, mW_so, ck_p6, ck_p7, ck_p8, ck_p10, ck_p11, ck_p12, ck_p13, ck_p15, h6, nI_1, ck_pu7, ck_pu10, ck_pu11, ck_pu12, ck_pu13, ck_pu15, ck_pa95, ck_pa96, ck_pa97, ck_pa98, ck_pa99, ck_pem, ck_pau96, ck_pau99, va_us, va_upn, ne_eq, Nat.reduceEqDiff, not_false_eq_true, nI_clamp (show a < 2 ^ 31 by omega)]; try dsimp only [kx_wp, kx_step, kx_lI, kx_lL, kx_lA, kx_gl, kx_pI, kx_pL, kx_pR, kx_pA, kx_pV, kx_s1, kx_s2, kx_sl, kx_pre, kx_c2, kx_pl, kx_cmp, kx_oF, kx_eqN, kx_nil, kx_c1, kx_ft, kx_aI, kx_aL, kx_aR, kx_ln, Nat.reduceAdd, Option.toList, List.cons_append, List.nil_append, mW_o, mf_7, mf_6, mf_16, m_95])
        repeat' apply And.intro
        all_goals try (first | with_reducible assumption | (with_reducible refine ck_nzI ?_; simp; done) | (with_reducible refine ck_nzL ?_; simp; done) | (with_reducible refine vp_in_nI ?_ ?_ <;> first | omega | decide) | (with_reducible refine Nat.le_of_ble_eq_true ?_; rfl) | omega)
        · intro zc8
          first | exact absurd rfl zc8 | exact absurd zc8 (by decide) | exact absurd (by decide) zc8 | (exfalso; first | exact absurd zc8 (by first | (simp only [nI_leI (show n < 2 ^ 31 by omega) (show a < 2 ^ 31 by omega)]; omega) | (simp only [nI_leI (show n < 2 ^ 31 by omega) (show a < 2 ^ 31 by omega), Decidable.not_not]; omega)) | exact hb zc22 | exact zc22 hb | exact hb (Decidable.not_not.mp zc22)) | (exfalso; simp_all; done)
        · intro zc8
          with_reducible first | have ze8 := Int32.not_le.mp zc8 | have ze8 := zc8
          refine hB bX11_here_11 _ _ _ _ _ _ _ kX11_here_11 ?_
          dsimp only [bX11_here_11, kx_wp, kx_step, kx_lI, kx_lL, kx_lA, kx_gl, kx_pI, kx_pL, kx_pR, kx_pA, kx_pV, kx_s1, kx_s2, kx_sl, kx_pre, kx_c2, kx_pl, kx_cmp, kx_oF, kx_eqN, kx_nil, kx_c1, kx_ft, kx_aI, kx_aL, kx_aR, kx_ln, Nat.reduceAdd, Option.toList, List.cons_append, List.nil_append, mW_o, mf_7, mf_6, mf_16, m_95]
          repeat (simp only [ms_95, mu_7, mW_so, ck_p6, ck_p7, ck_p8, ck_p10, ck_p11, ck_p12, ck_p13, ck_p15, h6, nI_1, ck_pu7, ck_pu10, ck_pu11, ck_pu12, ck_pu13, ck_pu15, ck_pa95, ck_pa96, ck_pa97, ck_pa98, ck_pa99, ck_pem, ck_pau96, ck_pau99, va_us, va_upn, ne_eq, Nat.reduceEqDiff, not_false_eq_true, nI_clamp (show a < 2 ^ 31 by omega)]; try dsimp only [kx_wp, kx_step, kx_lI, kx_lL, kx_lA, kx_gl, kx_pI, kx_pL, kx_pR, kx_pA, kx_pV, kx_s1, kx_s2, kx_sl, kx_pre, kx_c2, kx_pl, kx_cmp, kx_oF, kx_eqN, kx_nil, kx_c1, kx_ft, kx_aI, kx_aL, kx_aR, kx_ln, Nat.reduceAdd, Option.toList, List.cons_append, List.nil_append, mW_o, mf_7, mf_6, mf_16, m_95])
          repeat' apply And.intro
          all_goals try (first | with_reducible assumption | (with_reducible refine ck_nzI ?_; simp; done) | (with_reducible refine ck_nzL ?_; simp; done) | (with_reducible refine vp_in_nI ?_ ?_ <;> first | omega | decide) | (with_reducible refine Nat.le_of_ble_eq_true ?_; rfl) | omega)
          · intro zc22
            first | exact absurd rfl zc22 | exact absurd zc22 (by decide) | exact absurd (by decide) zc22 | (exfalso; first | exact absurd zc8 (by first | (simp only [nI_leI (show n < 2 ^ 31 by omega) (show a < 2 ^ 31 by omega)]; omega) | (simp only [nI_leI (show n < 2 ^ 31 by omega) (show a < 2 ^ 31 by omega), Decidable.not_not]; omega)) | exact hb zc22 | exact zc22 hb | exact hb (Decidable.not_not.mp zc22)) | (exfalso; simp_all; done)
          · intro zc22
            with_reducible first | have ze22 := Decidable.not_not.mp zc22 | have ze22 := zc22
            refine hB bX11_here_25 _ _ _ _ _ _ _ kX11_here_25 ?_
            dsimp only [bX11_here_25, kx_wp, kx_step, kx_lI, kx_lL, kx_lA, kx_gl, kx_pI, kx_pL, kx_pR, kx_pA, kx_pV, kx_s1, kx_s2, kx_sl, kx_pre, kx_c2, kx_pl, kx_cmp, kx_oF, kx_eqN, kx_nil, kx_c1, kx_ft, kx_aI, kx_aL, kx_aR, kx_ln, Nat.reduceAdd, Option.toList, List.cons_append, List.nil_append, mW_o, mf_7, mf_6, mf_16, m_95]
            repeat (simp only [ms_95, mu_7, mW_so, ck_p6, ck_p7, ck_p8, ck_p10, ck_p11, ck_p12, ck_p13, ck_p15, h6, nI_1, ck_pu7, ck_pu10, ck_pu11, ck_pu12, ck_pu13, ck_pu15, ck_pa95, ck_pa96, ck_pa97, ck_pa98, ck_pa99, ck_pem, ck_pau96, ck_pau99, va_us, va_upn, ne_eq, Nat.reduceEqDiff, not_false_eq_true, nI_clamp (show a < 2 ^ 31 by omega)]; try dsimp only [kx_wp, kx_step, kx_lI, kx_lL, kx_lA, kx_gl, kx_pI, kx_pL, kx_pR, kx_pA, kx_pV, kx_s1, kx_s2, kx_sl, kx_pre, kx_c2, kx_pl, kx_cmp, kx_oF, kx_eqN, kx_nil, kx_c1, kx_ft, kx_aI, kx_aL, kx_aR, kx_ln, Nat.reduceAdd, Option.toList, List.cons_append, List.nil_append, mW_o, mf_7, mf_6, mf_16, m_95])
            repeat' apply And.intro
            all_goals try (first | with_reducible assumption | (with_reducible refine ck_nzI ?_; simp; done) | (with_reducible refine ck_nzL ?_; simp; done) | (with_reducible refine vp_in_nI ?_ ?_ <;> first | omega | decide) | (with_reducible refine Nat.le_of_ble_eq_true ?_; rfl) | omega)
            all_goals exact ih (a + 1) (by omega) hE
      · rw [if_neg hb] at hE
        subst hE
        refine hB bX11_here_0 _ _ _ _ _ _ _ kX11_here_0 ?_
        dsimp only [bX11_here_0, kx_wp, kx_step, kx_lI, kx_lL, kx_lA, kx_gl, kx_pI, kx_pL, kx_pR, kx_pA, kx_pV, kx_s1, kx_s2, kx_sl, kx_pre, kx_c2, kx_pl, kx_cmp, kx_oF, kx_eqN, kx_nil, kx_c1, kx_ft, kx_aI, kx_aL, kx_aR, kx_ln, Nat.reduceAdd, Option.toList, List.cons_append, List.nil_append, mW_o, mf_7, mf_6, mf_16, m_95]
        repeat (simp only [ms_95, mu_7, mW_so, ck_p6, ck_p7, ck_p8, ck_p10, ck_p11, ck_p12, ck_p13, ck_p15, h6, nI_1, ck_pu7, ck_pu10, ck_pu11, ck_pu12, ck_pu13, ck_pu15, ck_pa95, ck_pa96, ck_pa97, ck_pa98, ck_pa99, ck_pem, ck_pau96, ck_pau99, va_us, va_upn, ne_eq, Nat.reduceEqDiff, not_false_eq_true, nI_clamp (show SS < 2 ^ 31 by omega)]; try dsimp only [kx_wp, kx_step, kx_lI, kx_lL, kx_lA, kx_gl, kx_pI, kx_pL, kx_pR, kx_pA, kx_pV, kx_s1, kx_s2, kx_sl, kx_pre, kx_c2, kx_pl, kx_cmp, kx_oF, kx_eqN, kx_nil, kx_c1, kx_ft, kx_aI, kx_aL, kx_aR, kx_ln, Nat.reduceAdd, Option.toList, List.cons_append, List.nil_append, mW_o, mf_7, mf_6, mf_16, m_95])
        repeat' apply And.intro
        all_goals try (first | with_reducible assumption | (with_reducible refine ck_nzI ?_; simp; done) | (with_reducible refine ck_nzL ?_; simp; done) | (with_reducible refine vp_in_nI ?_ ?_ <;> first | omega | decide) | (with_reducible refine Nat.le_of_ble_eq_true ?_; rfl) | omega)
        · intro zc8
          first | exact absurd rfl zc8 | exact absurd zc8 (by decide) | exact absurd (by decide) zc8 | (exfalso; first | exact absurd zc8 (by first | (simp only [nI_leI (show n < 2 ^ 31 by omega) (show SS < 2 ^ 31 by omega)]; omega) | (simp only [nI_leI (show n < 2 ^ 31 by omega) (show SS < 2 ^ 31 by omega), Decidable.not_not]; omega)) | exact hb zc22 | exact zc22 hb | exact hb (Decidable.not_not.mp zc22)) | (exfalso; simp_all; done)
        · intro zc8
          with_reducible first | have ze8 := Int32.not_le.mp zc8 | have ze8 := zc8
          refine hB bX11_here_11 _ _ _ _ _ _ _ kX11_here_11 ?_
          dsimp only [bX11_here_11, kx_wp, kx_step, kx_lI, kx_lL, kx_lA, kx_gl, kx_pI, kx_pL, kx_pR, kx_pA, kx_pV, kx_s1, kx_s2, kx_sl, kx_pre, kx_c2, kx_pl, kx_cmp, kx_oF, kx_eqN, kx_nil, kx_c1, kx_ft, kx_aI, kx_aL, kx_aR, kx_ln, Nat.reduceAdd, Option.toList, List.cons_append, List.nil_append, mW_o, mf_7, mf_6, mf_16, m_95]
          repeat (simp only [ms_95, mu_7, mW_so, ck_p6, ck_p7, ck_p8, ck_p10, ck_p11, ck_p12, ck_p13, ck_p15, h6, nI_1, ck_pu7, ck_pu10, ck_pu11, ck_pu12, ck_pu13, ck_pu15, ck_pa95, ck_pa96, ck_pa97, ck_pa98, ck_pa99, ck_pem, ck_pau96, ck_pau99, va_us, va_upn, ne_eq, Nat.reduceEqDiff, not_false_eq_true, nI_clamp (show SS < 2 ^ 31 by omega)]; try dsimp only [kx_wp, kx_step, kx_lI, kx_lL, kx_lA, kx_gl, kx_pI, kx_pL, kx_pR, kx_pA, kx_pV, kx_s1, kx_s2, kx_sl, kx_pre, kx_c2, kx_pl, kx_cmp, kx_oF, kx_eqN, kx_nil, kx_c1, kx_ft, kx_aI, kx_aL, kx_aR, kx_ln, Nat.reduceAdd, Option.toList, List.cons_append, List.nil_append, mW_o, mf_7, mf_6, mf_16, m_95])
          repeat' apply And.intro
          all_goals try (first | with_reducible assumption | (with_reducible refine ck_nzI ?_; simp; done) | (with_reducible refine ck_nzL ?_; simp; done) | (with_reducible refine vp_in_nI ?_ ?_ <;> first | omega | decide) | (with_reducible refine Nat.le_of_ble_eq_true ?_; rfl) | omega)
          · intro zc22
            have ze22 := zc22
            all_goals exact j38
          · intro zc22
            first | exact absurd rfl zc22 | exact absurd zc22 (by decide) | exact absurd (by decide) zc22 | (exfalso; first | exact absurd zc8 (by first | (simp only [nI_leI (show n < 2 ^ 31 by omega) (show SS < 2 ^ 31 by omega)]; omega) | (simp only [nI_leI (show n < 2 ^ 31 by omega) (show SS < 2 ^ 31 by omega), Decidable.not_not]; omega)) | exact hb zc22 | exact zc22 hb | exact hb (Decidable.not_not.mp zc22)) | (exfalso; simp_all; done)
  exact loop0 (n - a) a (by omega) hSS


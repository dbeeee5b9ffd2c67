/-- the strokes of one sounding, and whose they are, by the second -/
def ck_hi (b f bit : Int32) (P : (Nat → Int32) × (Nat → Int32)) : Nat → (Nat → Int32) × (Nat → Int32)
  | 0 => P
  | n + 1 =>
    let Q := ck_hi b f bit P n
    let s := b + 2 * nI n - f
    if 0 ≤ s ∧ s ≤ 119 then (upd Q.1 s.toNatClampNeg (Q.1 s.toNatClampNeg + 1), upd Q.2 s.toNatClampNeg (Q.2 s.toNatClampNeg ||| bit)) else Q
def ck_wy (A : Nat → Nat → Int32) (x y : Int32) (c : Nat) : Int32 := ck_abs (x - A 100 c) + ck_abs (y - A 101 c)
def ck_z120 (f : Nat → Int32) (n : Nat) : Nat → Int32 := ck_cp f (fun _ => 0) n
theorem ck_z120_s (f : Nat → Int32) (n : Nat) : upd (ck_z120 f n) n 0 = ck_z120 f (n + 1) := ck_cp_s f (fun _ => 0) n
theorem ck_z120_0 (f : Nat → Int32) : ck_z120 f 0 = f := ck_cp_0 _ _
/-- the strokes of the k latest soundings -/
def ck_ho (A : Nat → Nat → Int32) (x y f : Int32) (sd : Nat) : Nat → (Nat → Int32) × (Nat → Int32)
  | 0 => (ck_z120 (A 124) 120, ck_z120 (A 125) 120)
  | k + 1 =>
    let i := (sd - 1 - k) % 200
    let c := (A 118 i).toNatClampNeg
    if ck_wy A x y c ≤ A 102 (16 * c + 14) then ck_hi (A 119 i + ck_wy A x y c / 10) (60 * f) (1 <<< (nI c &&& 31)) (ck_ho A x y f sd k) (A 120 i + A 121 i).toNatClampNeg
    else ck_ho A x y f sd k
/-- the first run of strokes: how many, and whose -/
def ck_hc (P : (Nat → Int32) × (Nat → Int32)) : Nat → Nat → Int32 → Int32 → Int32 → Int32 × Int32
  | 0, _, ct, bt, _ => (ct, bt)
  | n + 1, s, ct, bt, la =>
    if ct = 0 then (if P.1 s = 0 then ck_hc P n (s + 1) ct bt la else ck_hc P n (s + 1) (ct + P.1 s) (bt ||| P.2 s) (nI s))
    else if nI s ≤ la + 3 then (if P.1 s = 0 then ck_hc P n (s + 1) ct bt la else ck_hc P n (s + 1) (ct + P.1 s) (bt ||| P.2 s) (nI s))
    else (ct, bt)
/-- the soundings kept are sound -/
def ck_so (A : Nat → Nat → Int32) (sd : Nat) : Prop := ∀ i, i < 200 → i < sd → ∃ ci nn : Nat, ci < 8 ∧ A 118 i = nI ci ∧ nn < 2 ^ 20 ∧ A 120 i + A 121 i = nI nn
def ck_hq (A : Nat → Nat → Int32) (x y f : Int32) (sd : Nat) : (Nat → Int32) × (Nat → Int32) := ck_ho A x y f sd (min sd 200)
def ck_hr (A : Nat → Nat → Int32) (x y f : Int32) (sd : Nat) : Int32 × Int32 := ck_hc (ck_hq A x y f sd) 120 0 0 0 0

def bX11_hears_0 : List kx_O := [(.iconst 0, 0, 0, 0, .int 0), (.istore 4, 4, 0, 0, .null)]
theorem kX11_hears_0 : kx_oks kxL_X11 false cX11_hears 0 bX11_hears_0 = true := by decide +kernel
def bX11_hears_3 : List kx_O := [(.iload 4, 4, 0, 0, .null), (.bipush 120, 0, 0, 0, .int 120), (.if_icmp .ge 25, 32, 0, 0, .null)]
theorem kX11_hears_3 : kx_oks kxL_X11 false cX11_hears 3 bX11_hears_3 = true := by decide +kernel
def bX11_hears_10 : List kx_O := [(.aload_n 0, 0, 0, 0, .null), (.getfield 109, 11, 56, 0, .null), (.iload 4, 4, 0, 0, .null), (.iconst 0, 0, 0, 0, .int 0), (.iastore, 0, 0, 0, .null), (.aload_n 0, 0, 0, 0, .null), (.getfield 112, 11, 57, 0, .null), (.iload 4, 4, 0, 0, .null), (.iconst 0, 0, 0, 0, .int 0), (.iastore, 0, 0, 0, .null), (.iinc 4 1, 4, 0, 0, .int 1), (.goto (-26), 3, 0, 0, .null)]
theorem kX11_hears_10 : kx_oks kxL_X11 false cX11_hears 10 bX11_hears_10 = true := by decide +kernel
def bX11_hears_32 : List kx_O := [(.iconst 0, 0, 0, 0, .int 0), (.istore 4, 4, 0, 0, .null)]
theorem kX11_hears_32 : kx_oks kxL_X11 false cX11_hears 32 bX11_hears_32 = true := by decide +kernel
def bX11_hears_35 : List kx_O := [(.aload_n 0, 0, 0, 0, .null), (.iload 4, 4, 0, 0, .null)]
theorem kX11_hears_35 : kx_oks kxL_X11 false cX11_hears 35 bX11_hears_35 = true := by decide +kernel
def bX11_hears_41 : List kx_O := [(.ifCond .eq 160, 201, 0, 0, .null)]
theorem kX11_hears_41 : kx_oks kxL_X11 false cX11_hears 41 bX11_hears_41 = true := by decide +kernel
def bX11_hears_44 : List kx_O := [(.aload_n 0, 0, 0, 0, .null), (.getfield 424, 11, 22, 0, .null), (.iconst 1, 0, 0, 0, .int 1), (.isub, 0, 0, 0, .null), (.iload 4, 4, 0, 0, .null), (.isub, 0, 0, 0, .null), (.sipush 200, 0, 0, 0, .int 200), (.irem, 0, 0, 0, .null), (.istore 5, 5, 0, 0, .null), (.aload_n 0, 0, 0, 0, .null), (.getfield 91, 11, 41, 0, .null), (.iload 5, 5, 0, 0, .null), (.iaload, 0, 0, 0, .null), (.istore 6, 6, 0, 0, .null), (.iload_n 1, 1, 0, 0, .null), (.iload_n 2, 2, 0, 0, .null), (.aload_n 0, 0, 0, 0, .null), (.getfield 35, 11, 23, 0, .null), (.iload 6, 6, 0, 0, .null), (.iaload, 0, 0, 0, .null), (.aload_n 0, 0, 0, 0, .null), (.getfield 38, 11, 24, 0, .null), (.iload 6, 6, 0, 0, .null), (.iaload, 0, 0, 0, .null)]
theorem kX11_hears_44 : kx_oks kxL_X11 false cX11_hears 44 bX11_hears_44 = true := by decide +kernel
def bX11_hears_87 : List kx_O := [(.istore 7, 7, 0, 0, .null), (.iconst 0, 0, 0, 0, .int 0), (.istore 8, 8, 0, 0, .null)]
theorem kX11_hears_87 : kx_oks kxL_X11 false cX11_hears 87 bX11_hears_87 = true := by decide +kernel
def bX11_hears_92 : List kx_O := [(.iload 8, 8, 0, 0, .null), (.aload_n 0, 0, 0, 0, .null), (.getfield 97, 11, 43, 0, .null), (.iload 5, 5, 0, 0, .null), (.iaload, 0, 0, 0, .null), (.aload_n 0, 0, 0, 0, .null), (.getfield 100, 11, 44, 0, .null), (.iload 5, 5, 0, 0, .null), (.iaload, 0, 0, 0, .null), (.iadd, 0, 0, 0, .null), (.if_icmp .ge 86, 195, 0, 0, .null)]
theorem kX11_hears_92 : kx_oks kxL_X11 false cX11_hears 92 bX11_hears_92 = true := by decide +kernel
def bX11_hears_112 : List kx_O := [(.iload 7, 7, 0, 0, .null), (.aload_n 0, 0, 0, 0, .null), (.iload 6, 6, 0, 0, .null), (.bipush 14, 0, 0, 0, .int 14)]
theorem kX11_hears_112 : kx_oks kxL_X11 false cX11_hears 112 bX11_hears_112 = true := by decide +kernel
def bX11_hears_122 : List kx_O := [(.if_icmp .gt 73, 195, 0, 0, .null)]
theorem kX11_hears_122 : kx_oks kxL_X11 false cX11_hears 122 bX11_hears_122 = true := by decide +kernel
def bX11_hears_125 : List kx_O := [(.aload_n 0, 0, 0, 0, .null), (.getfield 94, 11, 42, 0, .null), (.iload 5, 5, 0, 0, .null), (.iaload, 0, 0, 0, .null), (.iload 7, 7, 0, 0, .null), (.bipush 10, 0, 0, 0, .int 10), (.idiv, 0, 0, 0, .null), (.iadd, 0, 0, 0, .null), (.iconst 2, 0, 0, 0, .int 2), (.iload 8, 8, 0, 0, .null), (.imul, 0, 0, 0, .null), (.iadd, 0, 0, 0, .null), (.bipush 60, 0, 0, 0, .int 60), (.iload_n 3, 3, 0, 0, .null), (.imul, 0, 0, 0, .null), (.isub, 0, 0, 0, .null), (.istore 9, 9, 0, 0, .null), (.iload 9, 9, 0, 0, .null), (.iconst 0, 0, 0, 0, .int 0), (.bipush 119, 0, 0, 0, .int 119)]
theorem kX11_hears_125 : kx_oks kxL_X11 false cX11_hears 125 bX11_hears_125 = true := by decide +kernel
def bX11_hears_158 : List kx_O := [(.ifCond .ne 6, 164, 0, 0, .null)]
theorem kX11_hears_158 : kx_oks kxL_X11 false cX11_hears 158 bX11_hears_158 = true := by decide +kernel
def bX11_hears_161 : List kx_O := [(.goto 28, 189, 0, 0, .null)]
theorem kX11_hears_161 : kx_oks kxL_X11 false cX11_hears 161 bX11_hears_161 = true := by decide +kernel
def bX11_hears_164 : List kx_O := [(.aload_n 0, 0, 0, 0, .null), (.getfield 109, 11, 56, 0, .null), (.iload 9, 9, 0, 0, .null), (.dup2, 0, 0, 0, .null), (.iaload, 0, 0, 0, .null), (.iconst 1, 0, 0, 0, .int 1), (.iadd, 0, 0, 0, .null), (.iastore, 0, 0, 0, .null), (.aload_n 0, 0, 0, 0, .null), (.getfield 112, 11, 57, 0, .null), (.iload 9, 9, 0, 0, .null), (.dup2, 0, 0, 0, .null), (.iaload, 0, 0, 0, .null), (.iconst 1, 0, 0, 0, .int 1), (.iload 6, 6, 0, 0, .null), (.ishl, 0, 0, 0, .null), (.ior, 0, 0, 0, .null), (.iastore, 0, 0, 0, .null)]
theorem kX11_hears_164 : kx_oks kxL_X11 false cX11_hears 164 bX11_hears_164 = true := by decide +kernel
def bX11_hears_189 : List kx_O := [(.iinc 8 1, 8, 0, 0, .int 1), (.goto (-100), 92, 0, 0, .null)]
theorem kX11_hears_189 : kx_oks kxL_X11 false cX11_hears 189 bX11_hears_189 = true := by decide +kernel
def bX11_hears_195 : List kx_O := [(.iinc 4 1, 4, 0, 0, .int 1), (.goto (-163), 35, 0, 0, .null)]
theorem kX11_hears_195 : kx_oks kxL_X11 false cX11_hears 195 bX11_hears_195 = true := by decide +kernel
def bX11_hears_201 : List kx_O := [(.iconst 0, 0, 0, 0, .int 0), (.istore 4, 4, 0, 0, .null), (.iconst 0, 0, 0, 0, .int 0), (.istore 5, 5, 0, 0, .null), (.iconst 0, 0, 0, 0, .int 0), (.istore 6, 6, 0, 0, .null), (.iconst 0, 0, 0, 0, .int 0), (.istore 7, 7, 0, 0, .null)]
theorem kX11_hears_201 : kx_oks kxL_X11 false cX11_hears 201 bX11_hears_201 = true := by decide +kernel
def bX11_hears_213 : List kx_O := [(.iload 7, 7, 0, 0, .null), (.bipush 120, 0, 0, 0, .int 120), (.if_icmp .ge 64, 281, 0, 0, .null)]
theorem kX11_hears_213 : kx_oks kxL_X11 false cX11_hears 213 bX11_hears_213 = true := by decide +kernel
def bX11_hears_220 : List kx_O := [(.iload 4, 4, 0, 0, .null), (.ifCond .eq 12, 234, 0, 0, .null)]
theorem kX11_hears_220 : kx_oks kxL_X11 false cX11_hears 220 bX11_hears_220 = true := by decide +kernel
def bX11_hears_225 : List kx_O := [(.iload 7, 7, 0, 0, .null), (.iload 6, 6, 0, 0, .null), (.iconst 3, 0, 0, 0, .int 3), (.iadd, 0, 0, 0, .null), (.if_icmp .gt 50, 281, 0, 0, .null)]
theorem kX11_hears_225 : kx_oks kxL_X11 false cX11_hears 225 bX11_hears_225 = true := by decide +kernel
def bX11_hears_234 : List kx_O := [(.aload_n 0, 0, 0, 0, .null), (.getfield 109, 11, 56, 0, .null), (.iload 7, 7, 0, 0, .null), (.iaload, 0, 0, 0, .null), (.ifCond .ne 6, 247, 0, 0, .null)]
theorem kX11_hears_234 : kx_oks kxL_X11 false cX11_hears 234 bX11_hears_234 = true := by decide +kernel
def bX11_hears_244 : List kx_O := [(.goto 31, 275, 0, 0, .null)]
theorem kX11_hears_244 : kx_oks kxL_X11 false cX11_hears 244 bX11_hears_244 = true := by decide +kernel
def bX11_hears_247 : List kx_O := [(.iload 4, 4, 0, 0, .null), (.aload_n 0, 0, 0, 0, .null), (.getfield 109, 11, 56, 0, .null), (.iload 7, 7, 0, 0, .null), (.iaload, 0, 0, 0, .null), (.iadd, 0, 0, 0, .null), (.istore 4, 4, 0, 0, .null), (.iload 5, 5, 0, 0, .null), (.aload_n 0, 0, 0, 0, .null), (.getfield 112, 11, 57, 0, .null), (.iload 7, 7, 0, 0, .null), (.iaload, 0, 0, 0, .null), (.ior, 0, 0, 0, .null), (.istore 5, 5, 0, 0, .null), (.iload 7, 7, 0, 0, .null), (.istore 6, 6, 0, 0, .null)]
theorem kX11_hears_247 : kx_oks kxL_X11 false cX11_hears 247 bX11_hears_247 = true := by decide +kernel
def bX11_hears_275 : List kx_O := [(.iinc 7 1, 7, 0, 0, .int 1), (.goto (-65), 213, 0, 0, .null)]
theorem kX11_hears_275 : kx_oks kxL_X11 false cX11_hears 275 bX11_hears_275 = true := by decide +kernel
def bX11_hears_281 : List kx_O := [(.aload_n 0, 0, 0, 0, .null), (.iload 5, 5, 0, 0, .null), (.putfield 476, 11, 58, 0, .null), (.iload 4, 4, 0, 0, .null), (.ireturn, 0, 0, 0, .null)]
theorem kX11_hears_281 : kx_oks kxL_X11 false cX11_hears 281 bX11_hears_281 = true := by decide +kernel
theorem dX11_hears_38 : decode cX11_hears 38 = .ok (.invokevirtual 467, 3) := by decide +kernel
theorem dX11_hears_84 : decode cX11_hears 84 = .ok (.invokestatic 479, 3) := by decide +kernel
theorem dX11_hears_119 : decode cX11_hears 119 = .ok (.invokevirtual 365, 3) := by decide +kernel
theorem dX11_hears_155 : decode cX11_hears 155 = .ok (.invokestatic 167, 3) := by decide +kernel
set_option maxRecDepth 100000 in
set_option maxHeartbeats 4000000 in
theorem ct_X11_hears (l : Launch) (G : kx_G) {M : Nat → Int32} {A : Nat → Nat → Int32} {L : Nat → Nat → Int64} {R : kx_P} {sz : Nat} {x y fr : Int32} {sd : Nat} (h22 : M 22 = nI sd) (hsd : sd < 2 ^ 30) (hso : ck_so A sd)  : kx_M l G sX11_hears 3 0 0 [.ref 93, .int (x), .int (y), .int (fr)] (mW M A L R) sz (some (.int ((ck_hr A x y fr sd).1))) (mW (upd M 58 (ck_hr A x y fr sd).2) (va_up (va_up A 124 (ck_hq A x y fr sd).1) 125 (ck_hq A x y fr sd).2) L R) sz := by
  unfold ck_hr ck_hq
  generalize hQQ : ck_ho A x y fr sd (min sd 200) = QQ
  generalize hRR : ck_hc QQ 120 0 0 0 0 = RR
  replace hRR := hRR.symm
  refine kx_mk kx_tab kxLok_X11 (ini := false) [some (.ref 93), some (.int (x)), some (.int (y)), some (.int (fr)), none, none, none, none, none, none] ⟨by decide, rfl, by decide, by decide⟩ (⟨_, rfl⟩) rfl rfl (fun g hB hC => ?_)
  have j281 : ∀ (ct bt : Int32) (x6 x7 x8 x9 : Option Value), RR = (ct, bt) → g 281 [some (.ref 93), some (.int x), some (.int y), some (.int fr), some (.int (ct)), some (.int (bt)), x6, x7, x8, x9] [] (mW M (va_up (va_up A 124 (QQ).1) 125 (QQ).2) L R) sz 0 0 := by
    intro ct bt x6 x7 x8 x9 hE
    subst hE
    refine hB bX11_hears_281 _ _ _ _ _ _ _ kX11_hears_281 ?_
    dsimp only [bX11_hears_281, kx_wp, kx_step, kx_lI, kx_lL, kx_lA, kx_gl, kx_pI, kx_pL, kx_pR, kx_pA, kx_pV, kx_s1, kx_s2, kx_sl, kx_pre, kx_c2, kx_pl, kx_cmp, kx_oF, kx_eqN, kx_nil, kx_c1, kx_ft, kx_aI, kx_aL, kx_aR, kx_ln, Nat.reduceAdd, Option.toList, List.cons_append, List.nil_append, mW_o, mf_56, m_124, mf_57, m_125, mf_22, mf_41, m_118, mf_23, m_100, mf_24, m_101, mf_43, m_120, mf_44, m_121, mf_42, m_119, mf_58]
    repeat (simp only [ms_124, ms_125, ms_118, ms_100, ms_101, ms_120, ms_121, ms_119, mu_58, mW_so, h22, nI_1, va_us, va_upn, ne_eq, Nat.reduceEqDiff, not_false_eq_true, va_upup, va_up3, ck_z120_s]; try dsimp only [kx_wp, kx_step, kx_lI, kx_lL, kx_lA, kx_gl, kx_pI, kx_pL, kx_pR, kx_pA, kx_pV, kx_s1, kx_s2, kx_sl, kx_pre, kx_c2, kx_pl, kx_cmp, kx_oF, kx_eqN, kx_nil, kx_c1, kx_ft, kx_aI, kx_aL, kx_aR, kx_ln, Nat.reduceAdd, Option.toList, List.cons_append, List.nil_append, mW_o, mf_56, m_124, mf_57, m_125, mf_22, mf_41, m_118, mf_23, m_100, mf_24, m_101, mf_43, m_120, mf_44, m_121, mf_42, m_119, mf_58])
    all_goals (repeat' apply And.intro)
    all_goals ((try clear hB hC); first | exact True.intro | with_reducible rfl | with_reducible assumption | (with_reducible refine vp_in_nI ?_ ?_ <;> first | omega | decide) | exact Nat.le_of_ble_eq_true rfl | (with_reducible refine ck_nzI ?_; simp; done) | (with_reducible refine ck_nzL ?_; simp; done) | (simp only [pk_us, pk_uLs, ↓reduceIte, not_true_eq_false, not_false_eq_true]; done) | (simp only [↓reduceIte, not_true_eq_false, not_false_eq_true]; with_reducible rfl) | skip)
  have loop213 : ∀ (n9 s : Nat) (ct bt la : Int32) (x8 x9 : Option Value), s + n9 = 120 → RR = ck_hc QQ n9 s ct bt la → g 213 [some (.ref 93), some (.int x), some (.int y), some (.int fr), some (.int (ct)), some (.int (bt)), some (.int (la)), some (.int (nI s)), x8, x9] [] (mW M (va_up (va_up A 124 (QQ).1) 125 (QQ).2) L R) sz 0 0 := by
    intro n9
    induction n9 with
    | zero =>
      intro s ct bt la x8 x9 hs hE
      rw [ck_hc] at hE
      refine hB bX11_hears_213 _ _ _ _ _ _ _ kX11_hears_213 ?_
      dsimp only [bX11_hears_213, kx_wp, kx_step, kx_lI, kx_lL, kx_lA, kx_gl, kx_pI, kx_pL, kx_pR, kx_pA, kx_pV, kx_s1, kx_s2, kx_sl, kx_pre, kx_c2, kx_pl, kx_cmp, kx_oF, kx_eqN, kx_nil, kx_c1, kx_ft, kx_aI, kx_aL, kx_aR, kx_ln, Nat.reduceAdd, Option.toList, List.cons_append, List.nil_append, mW_o, mf_56, m_124, mf_57, m_125, mf_22, mf_41, m_118, mf_23, m_100, mf_24, m_101, mf_43, m_120, mf_44, m_121, mf_42, m_119, mf_58]
      repeat (simp only [ms_124, ms_125, ms_118, ms_100, ms_101, ms_120, ms_121, ms_119, mu_58, mW_so, h22, nI_1, va_us, va_upn, ne_eq, Nat.reduceEqDiff, not_false_eq_true, va_upup, va_up3, ck_z120_s, nI_clamp (show s < 2 ^ 31 by omega)]; try dsimp only [kx_wp, kx_step, kx_lI, kx_lL, kx_lA, kx_gl, kx_pI, kx_pL, kx_pR, kx_pA, kx_pV, kx_s1, kx_s2, kx_sl, kx_pre, kx_c2, kx_pl, kx_cmp, kx_oF, kx_eqN, kx_nil, kx_c1, kx_ft, kx_aI, kx_aL, kx_aR, kx_ln, Nat.reduceAdd, Option.toList, List.cons_append, List.nil_append, mW_o, mf_56, m_124, mf_57, m_125, mf_22, mf_41, m_118, mf_23, m_100, mf_24, m_101, mf_43, m_120, mf_44, m_121, mf_42, m_119, mf_58])
      repeat' apply And.intro
      all_goals try (first | with_reducible assumption | (with_reducible refine ck_nzI ?_; simp; done) | (with_reducible refine ck_nzL ?_; simp; done) | (with_reducible refine vp_in_nI ?_ ?_ <;> first | omega | decide) | (with_reducible refine Nat.le_of_ble_eq_true ?_; rfl) | omega)
      · intro zc217
        with_reducible first | have ze217 := Int32.not_lt.mpr zc217 | have ze217 := zc217
        exact j281 _ _ _ _ _ _ hE
      · intro zc217
        first | exact absurd rfl zc217 | exact absurd zc217 (by decide) | exact absurd (by decide) zc217 | (exfalso; first | exact absurd zc217 (by first | (rw [show (120 : Int32) = nI 120 from rfl, nI_leI (show 120 < 2 ^ 31 by omega) (show s < 2 ^ 31 by omega)]; omega) | (rw [show (120 : Int32) = nI 120 from rfl, nI_leI (show 120 < 2 ^ 31 by omega) (show s < 2 ^ 31 by omega), Decidable.not_not]; omega)) | exact zc222 h0 | exact h0 zc222 | exact h0 (Decidable.not_not.mp zc222)) | (exfalso; simp_all; done)
    | succ n9 ih =>
      intro s ct bt la x8 x9 hs hE
      rw [ck_hc] at hE
      refine hB bX11_hears_213 _ _ _ _ _ _ _ kX11_hears_213 ?_
      dsimp only [bX11_hears_213, kx_wp, kx_step, kx_lI, kx_lL, kx_lA, kx_gl, kx_pI, kx_pL, kx_pR, kx_pA, kx_pV, kx_s1, kx_s2, kx_sl, kx_pre, kx_c2, kx_pl, kx_cmp, kx_oF, kx_eqN, kx_nil, kx_c1, kx_ft, kx_aI, kx_aL, kx_aR, kx_ln, Nat.reduceAdd, Option.toList, List.cons_append, List.nil_append, mW_o, mf_56, m_124, mf_57, m_125, mf_22, mf_41, m_118, mf_23, m_100, mf_24, m_101, mf_43, m_120, mf_44, m_121, mf_42, m_119, mf_58]
      repeat (simp only [ms_124, ms_125, ms_118, ms_100, ms_101, ms_120, ms_121, ms_119, mu_58, mW_so, h22, nI_1, va_us, va_upn, ne_eq, Nat.reduceEqDiff, not_false_eq_true, va_upup, va_up3, ck_z120_s, nI_clamp (show s < 2 ^ 31 by omega)]; try dsimp only [kx_wp, kx_step, kx_lI, kx_lL, kx_lA, kx_gl, kx_pI, kx_pL, kx_pR, kx_pA, kx_pV, kx_s1, kx_s2, kx_sl, kx_pre, kx_c2, kx_pl, kx_cmp, kx_oF, kx_eqN, kx_nil, kx_c1, kx_ft, kx_aI, kx_aL, kx_aR, kx_ln, Nat.reduceAdd, Option.toList, List.cons_append, List.nil_append, mW_o, mf_56, m_124, mf_57, m_125, mf_22, mf_41, m_118, mf_23, m_100, mf_24, m_101, mf_43, m_120, mf_44, m_121, mf_42, m_119, mf_58])
      repeat' apply And.intro
      all_goals try (first | with_reducible assumption | (with_reducible refine ck_nzI ?_; simp; done) | (with_reducible refine ck_nzL ?_; simp; done) | (with_reducible refine vp_in_nI ?_ ?_ <;> first | omega | decide) | (with_reducible refine Nat.le_of_ble_eq_true ?_; rfl) | omega)
      · intro zc217
        first | exact absurd rfl zc217 | exact absurd zc217 (by decide) | exact absurd (by decide) zc217 | (exfalso; first | exact absurd zc217 (by first | (rw [show (120 : Int32) = nI 120 from rfl, nI_leI (show 120 < 2 ^ 31 by omega) (show s < 2 ^ 31 by omega)]; omega) | (rw [show (120 : Int32) = nI 120 from rfl, nI_leI (show 120 < 2 ^ 31 by omega) (show s < 2 ^ 31 by omega), Decidable.not_not]; omega)) | exact zc222 h0 | exact h0 zc222 | exact h0 (Decidable.not_not.mp zc222)) | (exfalso; simp_all; done)
      · intro zc217
        with_reducible first | have ze217 := Int32.not_le.mp zc217 | have ze217 := zc217
        refine hB bX11_hears_220 _ _ _ _ _ _ _ kX11_hears_220 ?_
        dsimp only [bX11_hears_220, kx_wp, kx_step, kx_lI, kx_lL, kx_lA, kx_gl, kx_pI, kx_pL, kx_pR, kx_pA, kx_pV, kx_s1, kx_s2, kx_sl, kx_pre, kx_c2, kx_pl, kx_cmp, kx_oF, kx_eqN, kx_nil, kx_c1, kx_ft, kx_aI, kx_aL, kx_aR, kx_ln, Nat.reduceAdd, Option.toList, List.cons_append, List.nil_append, mW_o, mf_56, m_124, mf_57, m_125, mf_22, mf_41, m_118, mf_23, m_100, mf_24, m_101, mf_43, m_120, mf_44, m_121, mf_42, m_119, mf_58]
        repeat (simp only [ms_124, ms_125, ms_118, ms_100, ms_101, ms_120, ms_121, ms_119, mu_58, mW_so, h22, nI_1, va_us, va_upn, ne_eq, Nat.reduceEqDiff, not_false_eq_true, va_upup, va_up3, ck_z120_s, nI_clamp (show s < 2 ^ 31 by omega)]; try dsimp only [kx_wp, kx_step, kx_lI, kx_lL, kx_lA, kx_gl, kx_pI, kx_pL, kx_pR, kx_pA, kx_pV, kx_s1, kx_s2, kx_sl, kx_pre, kx_c2, kx_pl, kx_cmp, kx_oF, kx_eqN, kx_nil, kx_c1, kx_ft, kx_aI, kx_aL, kx_aR, kx_ln, Nat.reduceAdd, Option.toList, List.cons_append, List.nil_append, mW_o, mf_56, m_124, mf_57, m_125, mf_22, mf_41, m_118, mf_23, m_100, mf_24, m_101, mf_43, m_120, mf_44, m_121, mf_42, m_119, mf_58])
        repeat' apply And.intro
        all_goals try (first | with_reducible assumption | (with_reducible refine ck_nzI ?_; simp; done) | (with_reducible refine ck_nzL ?_; simp; done) | (with_reducible refine vp_in_nI ?_ ?_ <;> first | omega | decide) | (with_reducible refine Nat.le_of_ble_eq_true ?_; rfl) | omega)
        · intro zc222
          have ze222 := zc222
          refine hB bX11_hears_234 _ _ _ _ _ _ _ kX11_hears_234 ?_
          dsimp only [bX11_hears_234, kx_wp, kx_step, kx_lI, kx_lL, kx_lA, kx_gl, kx_pI, kx_pL, kx_pR, kx_pA, kx_pV, kx_s1, kx_s2, kx_sl, kx_pre, kx_c2, kx_pl, kx_cmp, kx_oF, kx_eqN, kx_nil, kx_c1, kx_ft, kx_aI, kx_aL, kx_aR, kx_ln, Nat.reduceAdd, Option.toList, List.cons_append, List.nil_append, mW_o, mf_56, m_124, mf_57, m_125, mf_22, mf_41, m_118, mf_23, m_100, mf_24, m_101, mf_43, m_120, mf_44, m_121, mf_42, m_119, mf_58]
          repeat (simp only [ms_124, ms_125, ms_118, ms_100, ms_101, ms_120, ms_121, ms_119, mu_58, mW_so, h22, nI_1, va_us, va_upn, ne_eq, Nat.reduceEqDiff, not_false_eq_true, va_upup, va_up3, ck_z120_s, nI_clamp (show s < 2 ^ 31 by omega)]; try dsimp only [kx_wp, kx_step, kx_lI, kx_lL, kx_lA, kx_gl, kx_pI, kx_pL, kx_pR, kx_pA, kx_pV, kx_s1, kx_s2, kx_sl, kx_pre, kx_c2, kx_pl, kx_cmp, kx_oF, kx_eqN, kx_nil, kx_c1, kx_ft, kx_aI, kx_aL, kx_aR, kx_ln, Nat.reduceAdd, Option.toList, List.cons_append, List.nil_append, mW_o, mf_56, m_124, mf_57, m_125, mf_22, mf_41, m_118, mf_23, m_100, mf_24, m_101, mf_43, m_120, mf_44, m_121, mf_42, m_119, mf_58])
          repeat' apply And.intro
          all_goals try (first | with_reducible assumption | (with_reducible refine ck_nzI ?_; simp; done) | (with_reducible refine ck_nzL ?_; simp; done) | (with_reducible refine vp_in_nI ?_ ?_ <;> first | omega | decide) | (with_reducible refine Nat.le_of_ble_eq_true ?_; rfl) | omega)
          · intro zc241
            have ze241 := zc241
            refine hB bX11_hears_247 _ _ _ _ _ _ _ kX11_hears_247 ?_
            dsimp only [bX11_hears_247, kx_wp, kx_step, kx_lI, kx_lL, kx_lA, kx_gl, kx_pI, kx_pL, kx_pR, kx_pA, kx_pV, kx_s1, kx_s2, kx_sl, kx_pre, kx_c2, kx_pl, kx_cmp, kx_oF, kx_eqN, kx_nil, kx_c1, kx_ft, kx_aI, kx_aL, kx_aR, kx_ln, Nat.reduceAdd, Option.toList, List.cons_append, List.nil_append, mW_o, mf_56, m_124, mf_57, m_125, mf_22, mf_41, m_118, mf_23, m_100, mf_24, m_101, mf_43, m_120, mf_44, m_121, mf_42, m_119, mf_58]
            repeat (simp only [ms_124, ms_125, ms_118, ms_100, ms_101, ms_120, ms_121, ms_119, mu_58, mW_so, h22, nI_1, va_us, va_upn, ne_eq, Nat.reduceEqDiff, not_false_eq_true, va_upup, va_up3, ck_z120_s, nI_clamp (show s < 2 ^ 31 by omega)]; try dsimp only [kx_wp, kx_step, kx_lI, kx_lL, kx_lA, kx_gl, kx_pI, kx_pL, kx_pR, kx_pA, kx_pV, kx_s1, kx_s2, kx_sl, kx_pre, kx_c2, kx_pl, kx_cmp, kx_oF, kx_eqN, kx_nil, kx_c1, kx_ft, kx_aI, kx_aL, kx_aR, kx_ln, Nat.reduceAdd, Option.toList, List.cons_append, List.nil_append, mW_o, mf_56, m_124, mf_57, m_125, mf_22, mf_41, m_118, mf_23, m_100, mf_24, m_101, mf_43, m_120, mf_44, m_121, mf_42, m_119, mf_58])
            repeat' apply And.intro
            all_goals try (first | with_reducible assumption | (with_reducible refine ck_nzI ?_; simp; done) | (with_reducible refine ck_nzL ?_; simp; done) | (with_reducible refine vp_in_nI ?_ ?_ <;> first | omega | decide) | (with_reducible refine Nat.le_of_ble_eq_true ?_; rfl) | omega)
            refine hB bX11_hears_275 _ _ _ _ _ _ _ kX11_hears_275 ?_
            dsimp only [bX11_hears_275, kx_wp, kx_step, kx_lI, kx_lL, kx_lA, kx_gl, kx_pI, kx_pL, kx_pR, kx_pA, kx_pV, kx_s1, kx_s2, kx_sl, kx_pre, kx_c2, kx_pl, kx_cmp, kx_oF, kx_eqN, kx_nil, kx_c1, kx_ft, kx_aI, kx_aL, kx_aR, kx_ln, Nat.reduceAdd, Option.toList, List.cons_append, List.nil_append, mW_o, mf_56, m_124, mf_57, m_125, mf_22, mf_41, m_118, mf_23, m_100, mf_24, m_101, mf_43, m_120, mf_44, m_121, mf_42, m_119, mf_58]
            repeat (simp only [ms_124, ms_125, ms_118, ms_100, ms_101, ms_120, ms_121, ms_119, mu_58, mW_so, h22, nI_1, va_us, va_upn, ne_eq, Nat.reduceEqDiff, not_false_eq_true, va_upup, va_up3, ck_z120_s, nI_clamp (show s < 2 ^ 31 by omega)]; try dsimp only [kx_wp, kx_step, kx_lI, kx_lL, kx_lA, kx_gl, kx_pI, kx_pL, kx_pR, kx_pA, kx_pV, kx_s1, kx_s2, kx_sl, kx_pre, kx_c2, kx_pl, kx_cmp, kx_oF, kx_eqN, kx_nil, kx_c1, kx_ft, kx_aI, kx_aL, kx_aR, kx_ln, Nat.reduceAdd, Option.toList, List.cons_append, List.nil_append, mW_o, mf_56, m_124, mf_57, m_125, mf_22, mf_41, m_118, mf_23, m_100, mf_24, m_101, mf_43, m_120, mf_44, m_121, mf_42, m_119, mf_58])
            repeat' apply And.intro
            all_goals try (first | with_reducible assumption | (with_reducible refine ck_nzI ?_; simp; done) | (with_reducible refine ck_nzL ?_; simp; done) | (with_reducible refine vp_in_nI ?_ ?_ <;> first | omega | decide) | (with_reducible refine Nat.le_of_ble_eq_true ?_; rfl) | omega)
            simp only [zc217, ze217, eq_true ze222, ze241, ↓reduceIte] at hE
            exact ih (s + 1) _ _ _ _ _ (by omega) hE
          · intro zc241
            with_reducible first | have ze241 := Decidable.not_not.mp zc241 | have ze241 := zc241
            refine hB bX11_hears_244 _ _ _ _ _ _ _ kX11_hears_244 ?_
            dsimp only [bX11_hears_244, kx_wp, kx_step, kx_lI, kx_lL, kx_lA, kx_gl, kx_pI, kx_pL, kx_pR, kx_pA, kx_pV, kx_s1, kx_s2, kx_sl, kx_pre, kx_c2, kx_pl, kx_cmp, kx_oF, kx_eqN, kx_nil, kx_c1, kx_ft, kx_aI, kx_aL, kx_aR, kx_ln, Nat.reduceAdd, Option.toList, List.cons_append, List.nil_append, mW_o, mf_56, m_124, mf_57, m_125, mf_22, mf_41, m_118, mf_23, m_100, mf_24, m_101, mf_43, m_120, mf_44, m_121, mf_42, m_119, mf_58]
            repeat (simp only [ms_124, ms_125, ms_118, ms_100, ms_101, ms_120, ms_121, ms_119, mu_58, mW_so, h22, nI_1, va_us, va_upn, ne_eq, Nat.reduceEqDiff, not_false_eq_true, va_upup, va_up3, ck_z120_s, nI_clamp (show s < 2 ^ 31 by omega)]; try dsimp only [kx_wp, kx_step, kx_lI, kx_lL, kx_lA, kx_gl, kx_pI, kx_pL, kx_pR, kx_pA, kx_pV, kx_s1, kx_s2, kx_sl, kx_pre, kx_c2, kx_pl, kx_cmp, kx_oF, kx_eqN, kx_nil, kx_c1, kx_ft, kx_aI, kx_aL, kx_aR, kx_ln, Nat.reduceAdd, Option.toList, List.cons_append, List.nil_append, mW_o, mf_56, m_124, mf_57, m_125, mf_22, mf_41, m_118, mf_23, m_100, mf_24, m_101, mf_43, m_120, mf_44, m_121, mf_42, m_119, mf_58])
            repeat' apply And.intro
            all_goals try (first | with_reducible assumption | (with_reducible refine ck_nzI ?_; simp; done) | (with_reducible refine ck_nzL ?_; simp; done) | (with_reducible refine vp_in_nI ?_ ?_ <;> first | omega | decide) | (with_reducible refine Nat.le_of_ble_eq_true ?_; rfl) | omega)
            refine hB bX11_hears_275 _ _ _ _ _ _ _ kX11_hears_275 ?_
            dsimp only [bX11_hears_275, kx_wp, kx_step, kx_lI, kx_lL, kx_lA, kx_gl, kx_pI, kx_pL, kx_pR, kx_pA, kx_pV, kx_s1, kx_s2, kx_sl, kx_pre, kx_c2, kx_pl, kx_cmp, kx_oF, kx_eqN, kx_nil, kx_c1, kx_ft, kx_aI, kx_aL, kx_aR, kx_ln, Nat.reduceAdd, Option.toList, List.cons_append, List.nil_append, mW_o, mf_56, m_124, mf_57, m_125, mf_22, mf_41, m_118, mf_23, m_100, mf_24, m_101, mf_43, m_120, mf_44, m_121, mf_42, m_119, mf_58]
            repeat (simp only [ms_124, ms_125, ms_118, ms_100, ms_101, ms_120, ms_121, ms_119, mu_58, mW_so, h22, nI_1, va_us, va_upn, ne_eq, Nat.reduceEqDiff, not_false_eq_true, va_upup, va_up3, ck_z120_s, nI_clamp (show s < 2 ^ 31 by omega)]; try dsimp only [kx_wp, kx_step, kx_lI, kx_lL, kx_lA, kx_gl, kx_pI, kx_pL, kx_pR, kx_pA, kx_pV, kx_s1, kx_s2, kx_sl, kx_pre, kx_c2, kx_pl, kx_cmp, kx_oF, kx_eqN, kx_nil, kx_c1, kx_ft, kx_aI, kx_aL, kx_aR, kx_ln, Nat.reduceAdd, Option.toList, List.cons_append, List.nil_append, mW_o, mf_56, m_124, mf_57, m_125, mf_22, mf_41, m_118, mf_23, m_100, mf_24, m_101, mf_43, m_120, mf_44, m_121, mf_42, m_119, mf_58])
            repeat' apply And.intro
            all_goals try (first | with_reducible assumption | (with_reducible refine ck_nzI ?_; simp; done) | (with_reducible refine ck_nzL ?_; simp; done) | (with_reducible refine vp_in_nI ?_ ?_ <;> first | omega | decide) | (with_reducible refine Nat.le_of_ble_eq_true ?_; rfl) | omega)
            simp only [zc217, ze217, eq_true ze222, eq_true ze241, ↓reduceIte] at hE
            exact ih (s + 1) _ _ _ _ _ (by omega) hE
        · intro zc222
          have ze222 := zc222
          refine hB bX11_hears_225 _ _ _ _ _ _ _ kX11_hears_225 ?_
          dsimp only [bX11_hears_225, kx_wp, kx_step, kx_lI, kx_lL, kx_lA, kx_gl, kx_pI, kx_pL, kx_pR, kx_pA, kx_pV, kx_s1, kx_s2, kx_sl, kx_pre, kx_c2, kx_pl, kx_cmp, kx_oF, kx_eqN, kx_nil, kx_c1, kx_ft, kx_aI, kx_aL, kx_aR, kx_ln, Nat.reduceAdd, Option.toList, List.cons_append, List.nil_append, mW_o, mf_56, m_124, mf_57, m_125, mf_22, mf_41, m_118, mf_23, m_100, mf_24, m_101, mf_43, m_120, mf_44, m_121, mf_42, m_119, mf_58]
          repeat (simp only [ms_124, ms_125, ms_118, ms_100, ms_101, ms_120, ms_121, ms_119, mu_58, mW_so, h22, nI_1, va_us, va_upn, ne_eq, Nat.reduceEqDiff, not_false_eq_true, va_upup, va_up3, ck_z120_s, nI_clamp (show s < 2 ^ 31 by omega)]; try dsimp only [kx_wp, kx_step, kx_lI, kx_lL, kx_lA, kx_gl, kx_pI, kx_pL, kx_pR, kx_pA, kx_pV, kx_s1, kx_s2, kx_sl, kx_pre, kx_c2, kx_pl, kx_cmp, kx_oF, kx_eqN, kx_nil, kx_c1, kx_ft, kx_aI, kx_aL, kx_aR, kx_ln, Nat.reduceAdd, Option.toList, List.cons_append, List.nil_append, mW_o, mf_56, m_124, mf_57, m_125, mf_22, mf_41, m_118, mf_23, m_100, mf_24, m_101, mf_43, m_120, mf_44, m_121, mf_42, m_119, mf_58])
          repeat' apply And.intro
          all_goals try (first | with_reducible assumption | (with_reducible refine ck_nzI ?_; simp; done) | (with_reducible refine ck_nzL ?_; simp; done) | (with_reducible refine vp_in_nI ?_ ?_ <;> first | omega | decide) | (with_reducible refine Nat.le_of_ble_eq_true ?_; rfl) | omega)
          · intro zc231
            with_reducible first | have ze231 := Int32.not_le.mpr zc231 | have ze231 := zc231
            simp only [zc217, ze217, ze222, zc231, ze231, ↓reduceIte] at hE
            exact j281 _ _ _ _ _ _ hE
          · intro zc231
            with_reducible first | have ze231 := Int32.not_lt.mp zc231 | have ze231 := zc231
            refine hB bX11_hears_234 _ _ _ _ _ _ _ kX11_hears_234 ?_
            dsimp only [bX11_hears_234, kx_wp, kx_step, kx_lI, kx_lL, kx_lA, kx_gl, kx_pI, kx_pL, kx_pR, kx_pA, kx_pV, kx_s1, kx_s2, kx_sl, kx_pre, kx_c2, kx_pl, kx_cmp, kx_oF, kx_eqN, kx_nil, kx_c1, kx_ft, kx_aI, kx_aL, kx_aR, kx_ln, Nat.reduceAdd, Option.toList, List.cons_append, List.nil_append, mW_o, mf_56, m_124, mf_57, m_125, mf_22, mf_41, m_118, mf_23, m_100, mf_24, m_101, mf_43, m_120, mf_44, m_121, mf_42, m_119, mf_58]
            repeat (simp only [ms_124, ms_125, ms_118, ms_100, ms_101, ms_120, ms_121, ms_119, mu_58, mW_so, h22, nI_1, va_us, va_upn, ne_eq, Nat.reduceEqDiff, not_false_eq_true, va_upup, va_up3, ck_z120_s, nI_clamp (show s < 2 ^ 31 by omega)]; try dsimp only [kx_wp, kx_step, kx_lI, kx_lL, kx_lA, kx_gl, kx_pI, kx_pL, kx_pR, kx_pA, kx_pV, kx_s1, kx_s2, kx_sl, kx_pre, kx_c2, kx_pl, kx_cmp, kx_oF, kx_eqN, kx_nil, kx_c1, kx_ft, kx_aI, kx_aL, kx_aR, kx_ln, Nat.reduceAdd, Option.toList, List.cons_append, List.nil_append, mW_o, mf_56, m_124, mf_57, m_125, mf_22, mf_41, m_118, mf_23, m_100, mf_24, m_101, mf_43, m_120, mf_44, m_121, mf_42, m_119, mf_58])
            repeat' apply And.intro
            all_goals try (first | with_reducible assumption | (with_reducible refine ck_nzI ?_; simp; done) | (with_reducible refine ck_nzL ?_; simp; done) | (with_reducible refine vp_in_nI ?_ ?_ <;> first | omega | decide) | (with_reducible refine Nat.le_of_ble_eq_true ?_; rfl) | omega)
            · intro zc241
              have ze241 := zc241
              refine hB bX11_hears_247 _ _ _ _ _ _ _ kX11_hears_247 ?_
              dsimp only [bX11_hears_247, kx_wp, kx_step, kx_lI, kx_lL, kx_lA, kx_gl, kx_pI, kx_pL, kx_pR, kx_pA, kx_pV, kx_s1, kx_s2, kx_sl, kx_pre, kx_c2, kx_pl, kx_cmp, kx_oF, kx_eqN, kx_nil, kx_c1, kx_ft, kx_aI, kx_aL, kx_aR, kx_ln, Nat.reduceAdd, Option.toList, List.cons_append, List.nil_append, mW_o, mf_56, m_124, mf_57, m_125, mf_22, mf_41, m_118, mf_23, m_100, mf_24, m_101, mf_43, m_120, mf_44, m_121, mf_42, m_119, mf_58]
              repeat (simp only [ms_124, ms_125, ms_118, ms_100, ms_101, ms_120, ms_121, ms_119, mu_58, mW_so, h22, nI_1, va_us, va_upn, ne_eq, Nat.reduceEqDiff, not_false_eq_true, va_upup, va_up3, ck_z120_s, nI_clamp (show s < 2 ^ 31 by omega)]; try dsimp only [kx_wp, kx_step, kx_lI, kx_lL, kx_lA, kx_gl, kx_pI, kx_pL, kx_pR, kx_pA, kx_pV, kx_s1, kx_s2, kx_sl, kx_pre, kx_c2, kx_pl, kx_cmp, kx_oF, kx_eqN, kx_nil, kx_c1, kx_ft, kx_aI, kx_aL, kx_aR, kx_ln, Nat.reduceAdd, Option.toList, List.cons_append, List.nil_append, mW_o, mf_56, m_124, mf_57, m_125, mf_22, mf_41, m_118, mf_23, m_100, mf_24, m_101, mf_43, m_120, mf_44, m_121, mf_42, m_119, mf_58])
              repeat' apply And.intro
              all_goals try (first | with_reducible assumption | (with_reducible refine ck_nzI ?_; simp; done) | (with_reducible refine ck_nzL ?_; simp; done) | (with_reducible refine vp_in_nI ?_ ?_ <;> first | omega | decide) | (with_reducible refine Nat.le_of_ble_eq_true ?_; rfl) | omega)
              refine hB bX11_hears_275 _ _ _ _ _ _ _ kX11_hears_275 ?_
              dsimp only [bX11_hears_275, kx_wp, kx_step, kx_lI, kx_lL, kx_lA, kx_gl, kx_pI, kx_pL, kx_pR, kx_pA, kx_pV, kx_s1, kx_s2, kx_sl, kx_pre, kx_c2, kx_pl, kx_cmp, kx_oF, kx_eqN, kx_nil, kx_c1, kx_ft, kx_aI, kx_aL, kx_aR, kx_ln, Nat.reduceAdd, Option.toList, List.cons_append, List.nil_append, mW_o, mf_56, m_124, mf_57, m_125, mf_22, mf_41, m_118, mf_23, m_100, mf_24, m_101, mf_43, m_120, mf_44, m_121, mf_42, m_119, mf_58]
              repeat (simp only [ms_124, ms_125, ms_118, ms_100, ms_101, ms_120, ms_121, ms_119, mu_58, mW_so, h22, nI_1, va_us, va_upn, ne_eq, Nat.reduceEqDiff, not_false_eq_true, va_upup, va_up3, ck_z120_s, nI_clamp (show s < 2 ^ 31 by omega)]; try dsimp only [kx_wp, kx_step, kx_lI, kx_lL, kx_lA, kx_gl, kx_pI, kx_pL, kx_pR, kx_pA, kx_pV, kx_s1, kx_s2, kx_sl, kx_pre, kx_c2, kx_pl, kx_cmp, kx_oF, kx_eqN, kx_nil, kx_c1, kx_ft, kx_aI, kx_aL, kx_aR, kx_ln, Nat.reduceAdd, Option.toList, List.cons_append, List.nil_append, mW_o, mf_56, m_124, mf_57, m_125, mf_22, mf_41, m_118, mf_23, m_100, mf_24, m_101, mf_43, m_120, mf_44, m_121, mf_42, m_119, mf_58])
              repeat' apply And.intro
              all_goals try (first | with_reducible assumption | (with_reducible refine ck_nzI ?_; simp; done) | (with_reducible refine ck_nzL ?_; simp; done) | (with_reducible refine vp_in_nI ?_ ?_ <;> first | omega | decide) | (with_reducible refine Nat.le_of_ble_eq_true ?_; rfl) | omega)
              simp only [zc217, ze217, ze222, zc231, ze231, ze241, ↓reduceIte] at hE
              exact ih (s + 1) _ _ _ _ _ (by omega) hE
            · intro zc241
              with_reducible first | have ze241 := Decidable.not_not.mp zc241 | have ze241 := zc241
              refine hB bX11_hears_244 _ _ _ _ _ _ _ kX11_hears_244 ?_
              dsimp only [bX11_hears_244, kx_wp, kx_step, kx_lI, kx_lL, kx_lA, kx_gl, kx_pI, kx_pL, kx_pR, kx_pA, kx_pV, kx_s1, kx_s2, kx_sl, kx_pre, kx_c2, kx_pl, kx_cmp, kx_oF, kx_eqN, kx_nil, kx_c1, kx_ft, kx_aI, kx_aL, kx_aR, kx_ln, Nat.reduceAdd, Option.toList, List.cons_append, List.nil_append, mW_o, mf_56, m_124, mf_57, m_125, mf_22, mf_41, m_118, mf_23, m_100, mf_24, m_101, mf_43, m_120, mf_44, m_121, mf_42, m_119, mf_58]
              repeat (simp only [ms_124, ms_125, ms_118, ms_100, ms_101, ms_120, ms_121, ms_119, mu_58, mW_so, h22, nI_1, va_us, va_upn, ne_eq, Nat.reduceEqDiff, not_false_eq_true, va_upup, va_up3, ck_z120_s, nI_clamp (show s < 2 ^ 31 by omega)]; try dsimp only [kx_wp, kx_step, kx_lI, kx_lL, kx_lA, kx_gl, kx_pI, kx_pL, kx_pR, kx_pA, kx_pV, kx_s1, kx_s2, kx_sl, kx_pre, kx_c2, kx_pl, kx_cmp, kx_oF, kx_eqN, kx_nil, kx_c1, kx_ft, kx_aI, kx_aL, kx_aR, kx_ln, Nat.reduceAdd, Option.toList, List.cons_append, List.nil_append, mW_o, mf_56, m_124, mf_57, m_125, mf_22, mf_41, m_118, mf_23, m_100, mf_24, m_101, mf_43, m_120, mf_44, m_121, mf_42, m_119, mf_58])
              repeat' apply And.intro
              all_goals try (first | with_reducible assumption | (with_reducible refine ck_nzI ?_; simp; done) | (with_reducible refine ck_nzL ?_; simp; done) | (with_reducible refine vp_in_nI ?_ ?_ <;> first | omega | decide) | (with_reducible refine Nat.le_of_ble_eq_true ?_; rfl) | omega)
              refine hB bX11_hears_275 _ _ _ _ _ _ _ kX11_hears_275 ?_
              dsimp only [bX11_hears_275, kx_wp, kx_step, kx_lI, kx_lL, kx_lA, kx_gl, kx_pI, kx_pL, kx_pR, kx_pA, kx_pV, kx_s1, kx_s2, kx_sl, kx_pre, kx_c2, kx_pl, kx_cmp, kx_oF, kx_eqN, kx_nil, kx_c1, kx_ft, kx_aI, kx_aL, kx_aR, kx_ln, Nat.reduceAdd, Option.toList, List.cons_append, List.nil_append, mW_o, mf_56, m_124, mf_57, m_125, mf_22, mf_41, m_118, mf_23, m_100, mf_24, m_101, mf_43, m_120, mf_44, m_121, mf_42, m_119, mf_58]
              repeat (simp only [ms_124, ms_125, ms_118, ms_100, ms_101, ms_120, ms_121, ms_119, mu_58, mW_so, h22, nI_1, va_us, va_upn, ne_eq, Nat.reduceEqDiff, not_false_eq_true, va_upup, va_up3, ck_z120_s, nI_clamp (show s < 2 ^ 31 by omega)]; try dsimp only [kx_wp, kx_step, kx_lI, kx_lL, kx_lA, kx_gl, kx_pI, kx_pL, kx_pR, kx_pA, kx_pV, kx_s1, kx_s2, kx_sl, kx_pre, kx_c2, kx_pl, kx_cmp, kx_oF, kx_eqN, kx_nil, kx_c1, kx_ft, kx_aI, kx_aL, kx_aR, kx_ln, Nat.reduceAdd, Option.toList, List.cons_append, List.nil_append, mW_o, mf_56, m_124, mf_57, m_125, mf_22, mf_41, m_118, mf_23, m_100, mf_24, m_101, mf_43, m_120, mf_44, m_121, mf_42, m_119, mf_58])
              repeat' apply And.intro
              all_goals try (first | with_reducible assumption | (with_reducible refine ck_nzI ?_; simp; done) | (with_reducible refine ck_nzL ?_; simp; done) | (with_reducible refine vp_in_nI ?_ ?_ <;> first | omega | decide) | (with_reducible refine Nat.le_of_ble_eq_true ?_; rfl) | omega)
              simp only [zc217, ze217, ze222, zc231, ze231, eq_true ze241, ↓reduceIte] at hE
              exact ih (s + 1) _ _ _ _ _ (by omega) hE
  have j201 : ∀ x4 x5 x6 x7 x8 x9, g 201 [some (.ref 93), some (.int x), some (.int y), some (.int fr), x4, x5, x6, x7, x8, x9] [] (mW M (va_up (va_up A 124 (QQ).1) 125 (QQ).2) L R) sz 0 0 := by
    intro x4 x5 x6 x7 x8 x9
    refine hB bX11_hears_201 _ _ _ _ _ _ _ kX11_hears_201 ?_
    dsimp only [bX11_hears_201, kx_wp, kx_step, kx_lI, kx_lL, kx_lA, kx_gl, kx_pI, kx_pL, kx_pR, kx_pA, kx_pV, kx_s1, kx_s2, kx_sl, kx_pre, kx_c2, kx_pl, kx_cmp, kx_oF, kx_eqN, kx_nil, kx_c1, kx_ft, kx_aI, kx_aL, kx_aR, kx_ln, Nat.reduceAdd, Option.toList, List.cons_append, List.nil_append, mW_o, mf_56, m_124, mf_57, m_125, mf_22, mf_41, m_118, mf_23, m_100, mf_24, m_101, mf_43, m_120, mf_44, m_121, mf_42, m_119, mf_58]
    repeat (simp only [ms_124, ms_125, ms_118, ms_100, ms_101, ms_120, ms_121, ms_119, mu_58, mW_so, h22, nI_1, va_us, va_upn, ne_eq, Nat.reduceEqDiff, not_false_eq_true, va_upup, va_up3, ck_z120_s]; try dsimp only [kx_wp, kx_step, kx_lI, kx_lL, kx_lA, kx_gl, kx_pI, kx_pL, kx_pR, kx_pA, kx_pV, kx_s1, kx_s2, kx_sl, kx_pre, kx_c2, kx_pl, kx_cmp, kx_oF, kx_eqN, kx_nil, kx_c1, kx_ft, kx_aI, kx_aL, kx_aR, kx_ln, Nat.reduceAdd, Option.toList, List.cons_append, List.nil_append, mW_o, mf_56, m_124, mf_57, m_125, mf_22, mf_41, m_118, mf_23, m_100, mf_24, m_101, mf_43, m_120, mf_44, m_121, mf_42, m_119, mf_58])
    repeat' apply And.intro
    all_goals try (first | with_reducible assumption | (with_reducible refine ck_nzI ?_; simp; done) | (with_reducible refine ck_nzL ?_; simp; done) | (with_reducible refine vp_in_nI ?_ ?_ <;> first | omega | decide) | (with_reducible refine Nat.le_of_ble_eq_true ?_; rfl) | omega)
    exact loop213 120 0 _ _ _ _ _ (by omega) hRR
  have j92n : ∀ (k i c nn : Nat) (way : Int32) (P : (Nat → Int32) × (Nat → Int32)) x9, i < 200 → c < 8 → nn < 2 ^ 20 → A 120 i + A 121 i = nI nn → ¬ way ≤ A 102 (16 * c + 14) → (∀ x8 x9, g 195 [some (.ref 93), some (.int x), some (.int y), some (.int fr), some (.int (nI k)), some (.int (nI i)), some (.int (nI c)), some (.int (way)), x8, x9] [] (mW M (va_up (va_up A 124 (P).1) 125 (P).2) L R) sz 0 0) → g 92 [some (.ref 93), some (.int x), some (.int y), some (.int fr), some (.int (nI k)), some (.int (nI i)), some (.int (nI c)), some (.int (way)), some (.int (nI 0)), x9] [] (mW M (va_up (va_up A 124 (P).1) 125 (P).2) L R) sz 0 0 := by
    intro k i c nn way P x9 hi hc hnn hN hr hg
    refine hB bX11_hears_92 _ _ _ _ _ _ _ kX11_hears_92 ?_
    dsimp only [bX11_hears_92, kx_wp, kx_step, kx_lI, kx_lL, kx_lA, kx_gl, kx_pI, kx_pL, kx_pR, kx_pA, kx_pV, kx_s1, kx_s2, kx_sl, kx_pre, kx_c2, kx_pl, kx_cmp, kx_oF, kx_eqN, kx_nil, kx_c1, kx_ft, kx_aI, kx_aL, kx_aR, kx_ln, Nat.reduceAdd, Option.toList, List.cons_append, List.nil_append, mW_o, mf_56, m_124, mf_57, m_125, mf_22, mf_41, m_118, mf_23, m_100, mf_24, m_101, mf_43, m_120, mf_44, m_121, mf_42, m_119, mf_58]
    repeat (simp only [ms_124, ms_125, ms_118, ms_100, ms_101, ms_120, ms_121, ms_119, mu_58, mW_so, h22, nI_1, va_us, va_upn, ne_eq, Nat.reduceEqDiff, not_false_eq_true, va_upup, va_up3, ck_z120_s, nI_clamp (show i < 2 ^ 31 by omega), nI_clamp (show c < 2 ^ 31 by omega), hN]; try dsimp only [kx_wp, kx_step, kx_lI, kx_lL, kx_lA, kx_gl, kx_pI, kx_pL, kx_pR, kx_pA, kx_pV, kx_s1, kx_s2, kx_sl, kx_pre, kx_c2, kx_pl, kx_cmp, kx_oF, kx_eqN, kx_nil, kx_c1, kx_ft, kx_aI, kx_aL, kx_aR, kx_ln, Nat.reduceAdd, Option.toList, List.cons_append, List.nil_append, mW_o, mf_56, m_124, mf_57, m_125, mf_22, mf_41, m_118, mf_23, m_100, mf_24, m_101, mf_43, m_120, mf_44, m_121, mf_42, m_119, mf_58])
    repeat' apply And.intro
    all_goals try (first | with_reducible assumption | (with_reducible refine ck_nzI ?_; simp; done) | (with_reducible refine ck_nzL ?_; simp; done) | (with_reducible refine vp_in_nI ?_ ?_ <;> first | omega | decide) | (with_reducible refine Nat.le_of_ble_eq_true ?_; rfl) | omega)
    · intro zc109
      with_reducible first | have ze109 := Int32.not_lt.mpr zc109 | have ze109 := zc109
      all_goals exact hg _ _
    · intro zc109
      with_reducible first | have ze109 := Int32.not_le.mp zc109 | have ze109 := zc109
      refine hB bX11_hears_112 _ _ _ _ _ _ _ kX11_hears_112 ?_
      dsimp only [bX11_hears_112, kx_wp, kx_step, kx_lI, kx_lL, kx_lA, kx_gl, kx_pI, kx_pL, kx_pR, kx_pA, kx_pV, kx_s1, kx_s2, kx_sl, kx_pre, kx_c2, kx_pl, kx_cmp, kx_oF, kx_eqN, kx_nil, kx_c1, kx_ft, kx_aI, kx_aL, kx_aR, kx_ln, Nat.reduceAdd, Option.toList, List.cons_append, List.nil_append, mW_o, mf_56, m_124, mf_57, m_125, mf_22, mf_41, m_118, mf_23, m_100, mf_24, m_101, mf_43, m_120, mf_44, m_121, mf_42, m_119, mf_58]
      repeat (simp only [ms_124, ms_125, ms_118, ms_100, ms_101, ms_120, ms_121, ms_119, mu_58, mW_so, h22, nI_1, va_us, va_upn, ne_eq, Nat.reduceEqDiff, not_false_eq_true, va_upup, va_up3, ck_z120_s, nI_clamp (show i < 2 ^ 31 by omega), nI_clamp (show c < 2 ^ 31 by omega), hN]; try dsimp only [kx_wp, kx_step, kx_lI, kx_lL, kx_lA, kx_gl, kx_pI, kx_pL, kx_pR, kx_pA, kx_pV, kx_s1, kx_s2, kx_sl, kx_pre, kx_c2, kx_pl, kx_cmp, kx_oF, kx_eqN, kx_nil, kx_c1, kx_ft, kx_aI, kx_aL, kx_aR, kx_ln, Nat.reduceAdd, Option.toList, List.cons_append, List.nil_append, mW_o, mf_56, m_124, mf_57, m_125, mf_22, mf_41, m_118, mf_23, m_100, mf_24, m_101, mf_43, m_120, mf_44, m_121, mf_42, m_119, mf_58])
      repeat' apply And.intro
      all_goals try (first | with_reducible assumption | (with_reducible refine ck_nzI ?_; simp; done) | (with_reducible refine ck_nzL ?_; simp; done) | (with_reducible refine vp_in_nI ?_ ?_ <;> first | omega | decide) | (with_reducible refine Nat.le_of_ble_eq_true ?_; rfl) | omega)
      refine hC.1 365 _ _ _ _ _ _ _ 11 _ _ _ _ _ _ _ _ _ _ _ _ lX11_365 (ct_X11_its l G (c := c) (w := 14) hc (by decide)) ⟨by decide, rfl⟩ (mW_o) rfl rfl (Nat.le_of_ble_eq_true rfl) (by decide) (by decide) (by omega) (by omega) dX11_hears_119 ?_
      refine hB bX11_hears_122 _ _ _ _ _ _ _ kX11_hears_122 ?_
      dsimp only [bX11_hears_122, kx_wp, kx_step, kx_lI, kx_lL, kx_lA, kx_gl, kx_pI, kx_pL, kx_pR, kx_pA, kx_pV, kx_s1, kx_s2, kx_sl, kx_pre, kx_c2, kx_pl, kx_cmp, kx_oF, kx_eqN, kx_nil, kx_c1, kx_ft, kx_aI, kx_aL, kx_aR, kx_ln, Nat.reduceAdd, Option.toList, List.cons_append, List.nil_append, mW_o, mf_56, m_124, mf_57, m_125, mf_22, mf_41, m_118, mf_23, m_100, mf_24, m_101, mf_43, m_120, mf_44, m_121, mf_42, m_119, mf_58]
      repeat (simp only [ms_124, ms_125, ms_118, ms_100, ms_101, ms_120, ms_121, ms_119, mu_58, mW_so, h22, nI_1, va_us, va_upn, ne_eq, Nat.reduceEqDiff, not_false_eq_true, va_upup, va_up3, ck_z120_s, nI_clamp (show i < 2 ^ 31 by omega), nI_clamp (show c < 2 ^ 31 by omega), hN]; try dsimp only [kx_wp, kx_step, kx_lI, kx_lL, kx_lA, kx_gl, kx_pI, kx_pL, kx_pR, kx_pA, kx_pV, kx_s1, kx_s2, kx_sl, kx_pre, kx_c2, kx_pl, kx_cmp, kx_oF, kx_eqN, kx_nil, kx_c1, kx_ft, kx_aI, kx_aL, kx_aR, kx_ln, Nat.reduceAdd, Option.toList, List.cons_append, List.nil_append, mW_o, mf_56, m_124, mf_57, m_125, mf_22, mf_41, m_118, mf_23, m_100, mf_24, m_101, mf_43, m_120, mf_44, m_121, mf_42, m_119, mf_58])
      repeat' apply And.intro
      all_goals try (first | with_reducible assumption | (with_reducible refine ck_nzI ?_; simp; done) | (with_reducible refine ck_nzL ?_; simp; done) | (with_reducible refine vp_in_nI ?_ ?_ <;> first | omega | decide) | (with_reducible refine Nat.le_of_ble_eq_true ?_; rfl) | omega)
      · intro zc122
        with_reducible first | have ze122 := Int32.not_le.mpr zc122 | have ze122 := zc122
        all_goals exact hg _ _
      · intro zc122
        first | exact absurd rfl zc122 | exact absurd zc122 (by decide) | exact absurd (by decide) zc122 | (exfalso; first | exact absurd zc109 (by first | (simp only [nI_leI (show nn < 2 ^ 31 by omega) (show n < 2 ^ 31 by omega)]; omega) | (simp only [nI_leI (show nn < 2 ^ 31 by omega) (show n < 2 ^ 31 by omega), Decidable.not_not]; omega)) | exact absurd hr (Int32.not_le.mpr zc122) | exact hr (Int32.not_lt.mp zc122) | exact absurd (Int32.not_lt.mp zc122) hr | exact absurd zc158 (by decide) | exact zc158 rfl | exact hr zc122) | (exfalso; simp_all; done)
  have inner : ∀ (n9 n : Nat) (k i c nn : Nat) (way : Int32) (P : (Nat → Int32) × (Nat → Int32)) x9, n + n9 = nn → i < 200 → c < 8 → nn < 2 ^ 20 → A 120 i + A 121 i = nI nn → way ≤ A 102 (16 * c + 14) → (∀ x8 x9, g 195 [some (.ref 93), some (.int x), some (.int y), some (.int fr), some (.int (nI k)), some (.int (nI i)), some (.int (nI c)), some (.int (way)), x8, x9] [] (mW M (va_up (va_up A 124 (ck_hi (A 119 i + way / 10) (60 * fr) (1 <<< (nI c &&& 31)) P nn).1) 125 (ck_hi (A 119 i + way / 10) (60 * fr) (1 <<< (nI c &&& 31)) P nn).2) L R) sz 0 0) → g 92 [some (.ref 93), some (.int x), some (.int y), some (.int fr), some (.int (nI k)), some (.int (nI i)), some (.int (nI c)), some (.int (way)), some (.int (nI n)), x9] [] (mW M (va_up (va_up A 124 (ck_hi (A 119 i + way / 10) (60 * fr) (1 <<< (nI c &&& 31)) P n).1) 125 (ck_hi (A 119 i + way / 10) (60 * fr) (1 <<< (nI c &&& 31)) P n).2) L R) sz 0 0 := by
    intro n9
    induction n9 with
    | zero =>
      intro n k i c nn way P x9 hs hi hc hnn hN hr hg
      obtain rfl : nn = n := by omega
      refine hB bX11_hears_92 _ _ _ _ _ _ _ kX11_hears_92 ?_
      dsimp only [bX11_hears_92, kx_wp, kx_step, kx_lI, kx_lL, kx_lA, kx_gl, kx_pI, kx_pL, kx_pR, kx_pA, kx_pV, kx_s1, kx_s2, kx_sl, kx_pre, kx_c2, kx_pl, kx_cmp, kx_oF, kx_eqN, kx_nil, kx_c1, kx_ft, kx_aI, kx_aL, kx_aR, kx_ln, Nat.reduceAdd, Option.toList, List.cons_append, List.nil_append, mW_o, mf_56, m_124, mf_57, m_125, mf_22, mf_41, m_118, mf_23, m_100, mf_24, m_101, mf_43, m_120, mf_44, m_121, mf_42, m_119, mf_58]
      repeat (simp only [ms_124, ms_125, ms_118, ms_100, ms_101, ms_120, ms_121, ms_119, mu_58, mW_so, h22, nI_1, va_us, va_upn, ne_eq, Nat.reduceEqDiff, not_false_eq_true, va_upup, va_up3, ck_z120_s, nI_clamp (show i < 2 ^ 31 by omega), nI_clamp (show c < 2 ^ 31 by omega), hN]; try dsimp only [kx_wp, kx_step, kx_lI, kx_lL, kx_lA, kx_gl, kx_pI, kx_pL, kx_pR, kx_pA, kx_pV, kx_s1, kx_s2, kx_sl, kx_pre, kx_c2, kx_pl, kx_cmp, kx_oF, kx_eqN, kx_nil, kx_c1, kx_ft, kx_aI, kx_aL, kx_aR, kx_ln, Nat.reduceAdd, Option.toList, List.cons_append, List.nil_append, mW_o, mf_56, m_124, mf_57, m_125, mf_22, mf_41, m_118, mf_23, m_100, mf_24, m_101, mf_43, m_120, mf_44, m_121, mf_42, m_119, mf_58])
      repeat' apply And.intro
      all_goals try (first | with_reducible assumption | (with_reducible refine ck_nzI ?_; simp; done) | (with_reducible refine ck_nzL ?_; simp; done) | (with_reducible refine vp_in_nI ?_ ?_ <;> first | omega | decide) | (with_reducible refine Nat.le_of_ble_eq_true ?_; rfl) | omega)
      · intro zc109
        with_reducible first | have ze109 := Int32.not_lt.mpr zc109 | have ze109 := zc109
        all_goals exact hg _ _
      · intro zc109
        first | exact absurd rfl zc109 | exact absurd zc109 (by decide) | exact absurd (by decide) zc109 | (exfalso; first | exact absurd zc109 (by first | (simp only [nI_leI (show nn < 2 ^ 31 by omega) (show nn < 2 ^ 31 by omega)]; omega) | (simp only [nI_leI (show nn < 2 ^ 31 by omega) (show nn < 2 ^ 31 by omega), Decidable.not_not]; omega)) | exact absurd hr (Int32.not_le.mpr zc122) | exact hr (Int32.not_lt.mp zc122) | exact absurd (Int32.not_lt.mp zc122) hr | exact absurd zc158 (by decide) | exact zc158 rfl | exact hr zc122) | (exfalso; simp_all; done)
    | succ n9 ih =>
      intro n k i c nn way P x9 hs hi hc hnn hN hr hg
      by_cases hh : 0 ≤ A 119 i + way / 10 + 2 * nI n - 60 * fr ∧ A 119 i + way / 10 + 2 * nI n - 60 * fr ≤ 119
      · have hin : vp_in (A 119 i + way / 10 + 2 * nI n - 60 * fr) 120 := by
          rw [vp_in_iff]
          have e1 := (ck_le _ _).mp hh.1
          have e2 := (ck_le _ _).mp hh.2
          exact ⟨e1, Int.lt_of_le_of_lt e2 (by decide)⟩
        obtain ⟨j, hj, ej⟩ := vp_in_of hin (by decide)
        have zj : 0 ≤ nI j ∧ nI j ≤ 119 := ej ▸ hh
        have zhi : ck_hi (A 119 i + way / 10) (60 * fr) (1 <<< (nI c &&& 31)) P (n + 1) = (upd (ck_hi (A 119 i + way / 10) (60 * fr) (1 <<< (nI c &&& 31)) P n).1 j ((ck_hi (A 119 i + way / 10) (60 * fr) (1 <<< (nI c &&& 31)) P n).1 j + 1), upd (ck_hi (A 119 i + way / 10) (60 * fr) (1 <<< (nI c &&& 31)) P n).2 j ((ck_hi (A 119 i + way / 10) (60 * fr) (1 <<< (nI c &&& 31)) P n).2 j ||| (1 <<< (nI c &&& 31)))) := by
          rw [ck_hi]
          try dsimp only
          rw [if_pos hh, ej, nI_clamp (by omega)]
        have zg := fun x9 => ih (n + 1) k i c nn way P x9 (by omega) hi hc hnn hN hr hg
        rw [zhi] at zg
        refine hB bX11_hears_92 _ _ _ _ _ _ _ kX11_hears_92 ?_
        dsimp only [bX11_hears_92, kx_wp, kx_step, kx_lI, kx_lL, kx_lA, kx_gl, kx_pI, kx_pL, kx_pR, kx_pA, kx_pV, kx_s1, kx_s2, kx_sl, kx_pre, kx_c2, kx_pl, kx_cmp, kx_oF, kx_eqN, kx_nil, kx_c1, kx_ft, kx_aI, kx_aL, kx_aR, kx_ln, Nat.reduceAdd, Option.toList, List.cons_append, List.nil_append, mW_o, mf_56, m_124, mf_57, m_125, mf_22, mf_41, m_118, mf_23, m_100, mf_24, m_101, mf_43, m_120, mf_44, m_121, mf_42, m_119, mf_58]
        repeat (simp only [ms_124, ms_125, ms_118, ms_100, ms_101, ms_120, ms_121, ms_119, mu_58, mW_so, h22, nI_1, va_us, va_upn, ne_eq, Nat.reduceEqDiff, not_false_eq_true, va_upup, va_up3, ck_z120_s, nI_clamp (show i < 2 ^ 31 by omega), nI_clamp (show c < 2 ^ 31 by omega), hN, ej, nI_clamp (show j < 2 ^ 31 by omega)]; try dsimp only [kx_wp, kx_step, kx_lI, kx_lL, kx_lA, kx_gl, kx_pI, kx_pL, kx_pR, kx_pA, kx_pV, kx_s1, kx_s2, kx_sl, kx_pre, kx_c2, kx_pl, kx_cmp, kx_oF, kx_eqN, kx_nil, kx_c1, kx_ft, kx_aI, kx_aL, kx_aR, kx_ln, Nat.reduceAdd, Option.toList, List.cons_append, List.nil_append, mW_o, mf_56, m_124, mf_57, m_125, mf_22, mf_41, m_118, mf_23, m_100, mf_24, m_101, mf_43, m_120, mf_44, m_121, mf_42, m_119, mf_58])
        repeat' apply And.intro
        all_goals try (first | with_reducible assumption | (with_reducible refine ck_nzI ?_; simp; done) | (with_reducible refine ck_nzL ?_; simp; done) | (with_reducible refine vp_in_nI ?_ ?_ <;> first | omega | decide) | (with_reducible refine Nat.le_of_ble_eq_true ?_; rfl) | omega)
        · intro zc109
          first | exact absurd rfl zc109 | exact absurd zc109 (by decide) | exact absurd (by decide) zc109 | (exfalso; first | exact absurd zc109 (by first | (simp only [nI_leI (show nn < 2 ^ 31 by omega) (show n < 2 ^ 31 by omega)]; omega) | (simp only [nI_leI (show nn < 2 ^ 31 by omega) (show n < 2 ^ 31 by omega), Decidable.not_not]; omega)) | exact absurd hr (Int32.not_le.mpr zc122) | exact hr (Int32.not_lt.mp zc122) | exact absurd (Int32.not_lt.mp zc122) hr | exact absurd zc158 (by decide) | exact zc158 rfl | exact hr zc122) | (exfalso; simp_all; done)
        · intro zc109
          with_reducible first | have ze109 := Int32.not_le.mp zc109 | have ze109 := zc109
          refine hB bX11_hears_112 _ _ _ _ _ _ _ kX11_hears_112 ?_
          dsimp only [bX11_hears_112, kx_wp, kx_step, kx_lI, kx_lL, kx_lA, kx_gl, kx_pI, kx_pL, kx_pR, kx_pA, kx_pV, kx_s1, kx_s2, kx_sl, kx_pre, kx_c2, kx_pl, kx_cmp, kx_oF, kx_eqN, kx_nil, kx_c1, kx_ft, kx_aI, kx_aL, kx_aR, kx_ln, Nat.reduceAdd, Option.toList, List.cons_append, List.nil_append, mW_o, mf_56, m_124, mf_57, m_125, mf_22, mf_41, m_118, mf_23, m_100, mf_24, m_101, mf_43, m_120, mf_44, m_121, mf_42, m_119, mf_58]
          repeat (simp only [ms_124, ms_125, ms_118, ms_100, ms_101, ms_120, ms_121, ms_119, mu_58, mW_so, h22, nI_1, va_us, va_upn, ne_eq, Nat.reduceEqDiff, not_false_eq_true, va_upup, va_up3, ck_z120_s, nI_clamp (show i < 2 ^ 31 by omega), nI_clamp (show c < 2 ^ 31 by omega), hN, ej, nI_clamp (show j < 2 ^ 31 by omega)]; try dsimp only [kx_wp, kx_step, kx_lI, kx_lL, kx_lA, kx_gl, kx_pI, kx_pL, kx_pR, kx_pA, kx_pV, kx_s1, kx_s2, kx_sl, kx_pre, kx_c2, kx_pl, kx_cmp, kx_oF, kx_eqN, kx_nil, kx_c1, kx_ft, kx_aI, kx_aL, kx_aR, kx_ln, Nat.reduceAdd, Option.toList, List.cons_append, List.nil_append, mW_o, mf_56, m_124, mf_57, m_125, mf_22, mf_41, m_118, mf_23, m_100, mf_24, m_101, mf_43, m_120, mf_44, m_121, mf_42, m_119, mf_58])
          repeat' apply And.intro
          all_goals try (first | with_reducible assumption | (with_reducible refine ck_nzI ?_; simp; done) | (with_reducible refine ck_nzL ?_; simp; done) | (with_reducible refine vp_in_nI ?_ ?_ <;> first | omega | decide) | (with_reducible refine Nat.le_of_ble_eq_true ?_; rfl) | omega)
          refine hC.1 365 _ _ _ _ _ _ _ 11 _ _ _ _ _ _ _ _ _ _ _ _ lX11_365 (ct_X11_its l G (c := c) (w := 14) hc (by decide)) ⟨by decide, rfl⟩ (mW_o) rfl rfl (Nat.le_of_ble_eq_true rfl) (by decide) (by decide) (by omega) (by omega) dX11_hears_119 ?_
          refine hB bX11_hears_122 _ _ _ _ _ _ _ kX11_hears_122 ?_
          dsimp only [bX11_hears_122, kx_wp, kx_step, kx_lI, kx_lL, kx_lA, kx_gl, kx_pI, kx_pL, kx_pR, kx_pA, kx_pV, kx_s1, kx_s2, kx_sl, kx_pre, kx_c2, kx_pl, kx_cmp, kx_oF, kx_eqN, kx_nil, kx_c1, kx_ft, kx_aI, kx_aL, kx_aR, kx_ln, Nat.reduceAdd, Option.toList, List.cons_append, List.nil_append, mW_o, mf_56, m_124, mf_57, m_125, mf_22, mf_41, m_118, mf_23, m_100, mf_24, m_101, mf_43, m_120, mf_44, m_121, mf_42, m_119, mf_58]
          repeat (simp only [ms_124, ms_125, ms_118, ms_100, ms_101, ms_120, ms_121, ms_119, mu_58, mW_so, h22, nI_1, va_us, va_upn, ne_eq, Nat.reduceEqDiff, not_false_eq_true, va_upup, va_up3, ck_z120_s, nI_clamp (show i < 2 ^ 31 by omega), nI_clamp (show c < 2 ^ 31 by omega), hN, ej, nI_clamp (show j < 2 ^ 31 by omega)]; try dsimp only [kx_wp, kx_step, kx_lI, kx_lL, kx_lA, kx_gl, kx_pI, kx_pL, kx_pR, kx_pA, kx_pV, kx_s1, kx_s2, kx_sl, kx_pre, kx_c2, kx_pl, kx_cmp, kx_oF, kx_eqN, kx_nil, kx_c1, kx_ft, kx_aI, kx_aL, kx_aR, kx_ln, Nat.reduceAdd, Option.toList, List.cons_append, List.nil_append, mW_o, mf_56, m_124, mf_57, m_125, mf_22, mf_41, m_118, mf_23, m_100, mf_24, m_101, mf_43, m_120, mf_44, m_121, mf_42, m_119, mf_58])
          repeat' apply And.intro
          all_goals try (first | with_reducible assumption | (with_reducible refine ck_nzI ?_; simp; done) | (with_reducible refine ck_nzL ?_; simp; done) | (with_reducible refine vp_in_nI ?_ ?_ <;> first | omega | decide) | (with_reducible refine Nat.le_of_ble_eq_true ?_; rfl) | omega)
          · intro zc122
            first | exact absurd rfl zc122 | exact absurd zc122 (by decide) | exact absurd (by decide) zc122 | (exfalso; first | exact absurd zc109 (by first | (simp only [nI_leI (show nn < 2 ^ 31 by omega) (show n < 2 ^ 31 by omega)]; omega) | (simp only [nI_leI (show nn < 2 ^ 31 by omega) (show n < 2 ^ 31 by omega), Decidable.not_not]; omega)) | exact absurd hr (Int32.not_le.mpr zc122) | exact hr (Int32.not_lt.mp zc122) | exact absurd (Int32.not_lt.mp zc122) hr | exact absurd zc158 (by decide) | exact zc158 rfl | exact hr zc122) | (exfalso; simp_all; done)
          · intro zc122
            with_reducible first | have ze122 := Int32.not_lt.mp zc122 | have ze122 := zc122
            refine hB bX11_hears_125 _ _ _ _ _ _ _ kX11_hears_125 ?_
            dsimp only [bX11_hears_125, kx_wp, kx_step, kx_lI, kx_lL, kx_lA, kx_gl, kx_pI, kx_pL, kx_pR, kx_pA, kx_pV, kx_s1, kx_s2, kx_sl, kx_pre, kx_c2, kx_pl, kx_cmp, kx_oF, kx_eqN, kx_nil, kx_c1, kx_ft, kx_aI, kx_aL, kx_aR, kx_ln, Nat.reduceAdd, Option.toList, List.cons_append, List.nil_append, mW_o, mf_56, m_124, mf_57, m_125, mf_22, mf_41, m_118, mf_23, m_100, mf_24, m_101, mf_43, m_120, mf_44, m_121, mf_42, m_119, mf_58]
            repeat (simp only [ms_124, ms_125, ms_118, ms_100, ms_101, ms_120, ms_121, ms_119, mu_58, mW_so, h22, nI_1, va_us, va_upn, ne_eq, Nat.reduceEqDiff, not_false_eq_true, va_upup, va_up3, ck_z120_s, nI_clamp (show i < 2 ^ 31 by omega), nI_clamp (show c < 2 ^ 31 by omega), hN, ej, nI_clamp (show j < 2 ^ 31 by omega)]; try dsimp only [kx_wp, kx_step, kx_lI, kx_lL, kx_lA, kx_gl, kx_pI, kx_pL, kx_pR, kx_pA, kx_pV, kx_s1, kx_s2, kx_sl, kx_pre, kx_c2, kx_pl, kx_cmp, kx_oF, kx_eqN, kx_nil, kx_c1, kx_ft, kx_aI, kx_aL, kx_aR, kx_ln, Nat.reduceAdd, Option.toList, List.cons_append, List.nil_append, mW_o, mf_56, m_124, mf_57, m_125, mf_22, mf_41, m_118, mf_23, m_100, mf_24, m_101, mf_43, m_120, mf_44, m_121, mf_42, m_119, mf_58])
            repeat' apply And.intro
            all_goals try (first | with_reducible assumption | (with_reducible refine ck_nzI ?_; simp; done) | (with_reducible refine ck_nzL ?_; simp; done) | (with_reducible refine vp_in_nI ?_ ?_ <;> first | omega | decide) | (with_reducible refine Nat.le_of_ble_eq_true ?_; rfl) | omega)
            refine hC.2.1 167 _ _ _ _ _ _ _ _ _ _ _ _ _ _ _ _ _ lX11_167 (ct_X11_within l G) rfl rfl (Nat.le_of_ble_eq_true rfl) (by decide) (by decide) (by omega) (by omega) dX11_hears_155 ?_
            rw [if_pos zj]
            refine hB bX11_hears_158 _ _ _ _ _ _ _ kX11_hears_158 ?_
            dsimp only [bX11_hears_158, kx_wp, kx_step, kx_lI, kx_lL, kx_lA, kx_gl, kx_pI, kx_pL, kx_pR, kx_pA, kx_pV, kx_s1, kx_s2, kx_sl, kx_pre, kx_c2, kx_pl, kx_cmp, kx_oF, kx_eqN, kx_nil, kx_c1, kx_ft, kx_aI, kx_aL, kx_aR, kx_ln, Nat.reduceAdd, Option.toList, List.cons_append, List.nil_append, mW_o, mf_56, m_124, mf_57, m_125, mf_22, mf_41, m_118, mf_23, m_100, mf_24, m_101, mf_43, m_120, mf_44, m_121, mf_42, m_119, mf_58]
            repeat (simp only [ms_124, ms_125, ms_118, ms_100, ms_101, ms_120, ms_121, ms_119, mu_58, mW_so, h22, nI_1, va_us, va_upn, ne_eq, Nat.reduceEqDiff, not_false_eq_true, va_upup, va_up3, ck_z120_s, nI_clamp (show i < 2 ^ 31 by omega), nI_clamp (show c < 2 ^ 31 by omega), hN, ej, nI_clamp (show j < 2 ^ 31 by omega)]; try dsimp only [kx_wp, kx_step, kx_lI, kx_lL, kx_lA, kx_gl, kx_pI, kx_pL, kx_pR, kx_pA, kx_pV, kx_s1, kx_s2, kx_sl, kx_pre, kx_c2, kx_pl, kx_cmp, kx_oF, kx_eqN, kx_nil, kx_c1, kx_ft, kx_aI, kx_aL, kx_aR, kx_ln, Nat.reduceAdd, Option.toList, List.cons_append, List.nil_append, mW_o, mf_56, m_124, mf_57, m_125, mf_22, mf_41, m_118, mf_23, m_100, mf_24, m_101, mf_43, m_120, mf_44, m_121, mf_42, m_119, mf_58])
            repeat' apply And.intro
            all_goals try (first | with_reducible assumption | (with_reducible refine ck_nzI ?_; simp; done) | (with_reducible refine ck_nzL ?_; simp; done) | (with_reducible refine vp_in_nI ?_ ?_ <;> first | omega | decide) | (with_reducible refine Nat.le_of_ble_eq_true ?_; rfl) | omega)
            · intro zc158
              have ze158 := zc158
              refine hB bX11_hears_164 _ _ _ _ _ _ _ kX11_hears_164 ?_
              dsimp only [bX11_hears_164, kx_wp, kx_step, kx_lI, kx_lL, kx_lA, kx_gl, kx_pI, kx_pL, kx_pR, kx_pA, kx_pV, kx_s1, kx_s2, kx_sl, kx_pre, kx_c2, kx_pl, kx_cmp, kx_oF, kx_eqN, kx_nil, kx_c1, kx_ft, kx_aI, kx_aL, kx_aR, kx_ln, Nat.reduceAdd, Option.toList, List.cons_append, List.nil_append, mW_o, mf_56, m_124, mf_57, m_125, mf_22, mf_41, m_118, mf_23, m_100, mf_24, m_101, mf_43, m_120, mf_44, m_121, mf_42, m_119, mf_58]
              repeat (simp only [ms_124, ms_125, ms_118, ms_100, ms_101, ms_120, ms_121, ms_119, mu_58, mW_so, h22, nI_1, va_us, va_upn, ne_eq, Nat.reduceEqDiff, not_false_eq_true, va_upup, va_up3, ck_z120_s, nI_clamp (show i < 2 ^ 31 by omega), nI_clamp (show c < 2 ^ 31 by omega), hN, ej, nI_clamp (show j < 2 ^ 31 by omega)]; try dsimp only [kx_wp, kx_step, kx_lI, kx_lL, kx_lA, kx_gl, kx_pI, kx_pL, kx_pR, kx_pA, kx_pV, kx_s1, kx_s2, kx_sl, kx_pre, kx_c2, kx_pl, kx_cmp, kx_oF, kx_eqN, kx_nil, kx_c1, kx_ft, kx_aI, kx_aL, kx_aR, kx_ln, Nat.reduceAdd, Option.toList, List.cons_append, List.nil_append, mW_o, mf_56, m_124, mf_57, m_125, mf_22, mf_41, m_118, mf_23, m_100, mf_24, m_101, mf_43, m_120, mf_44, m_121, mf_42, m_119, mf_58])
              repeat' apply And.intro
              all_goals try (first | with_reducible assumption | (with_reducible refine ck_nzI ?_; simp; done) | (with_reducible refine ck_nzL ?_; simp; done) | (with_reducible refine vp_in_nI ?_ ?_ <;> first | omega | decide) | (with_reducible refine Nat.le_of_ble_eq_true ?_; rfl) | omega)
              refine hB bX11_hears_189 _ _ _ _ _ _ _ kX11_hears_189 ?_
              dsimp only [bX11_hears_189, kx_wp, kx_step, kx_lI, kx_lL, kx_lA, kx_gl, kx_pI, kx_pL, kx_pR, kx_pA, kx_pV, kx_s1, kx_s2, kx_sl, kx_pre, kx_c2, kx_pl, kx_cmp, kx_oF, kx_eqN, kx_nil, kx_c1, kx_ft, kx_aI, kx_aL, kx_aR, kx_ln, Nat.reduceAdd, Option.toList, List.cons_append, List.nil_append, mW_o, mf_56, m_124, mf_57, m_125, mf_22, mf_41, m_118, mf_23, m_100, mf_24, m_101, mf_43, m_120, mf_44, m_121, mf_42, m_119, mf_58]
              repeat (simp only [ms_124, ms_125, ms_118, ms_100, ms_101, ms_120, ms_121, ms_119, mu_58, mW_so, h22, nI_1, va_us, va_upn, ne_eq, Nat.reduceEqDiff, not_false_eq_true, va_upup, va_up3, ck_z120_s, nI_clamp (show i < 2 ^ 31 by omega), nI_clamp (show c < 2 ^ 31 by omega), hN, ej, nI_clamp (show j < 2 ^ 31 by omega)]; try dsimp only [kx_wp, kx_step, kx_lI, kx_lL, kx_lA, kx_gl, kx_pI, kx_pL, kx_pR, kx_pA, kx_pV, kx_s1, kx_s2, kx_sl, kx_pre, kx_c2, kx_pl, kx_cmp, kx_oF, kx_eqN, kx_nil, kx_c1, kx_ft, kx_aI, kx_aL, kx_aR, kx_ln, Nat.reduceAdd, Option.toList, List.cons_append, List.nil_append, mW_o, mf_56, m_124, mf_57, m_125, mf_22, mf_41, m_118, mf_23, m_100, mf_24, m_101, mf_43, m_120, mf_44, m_121, mf_42, m_119, mf_58])
              repeat' apply And.intro
              all_goals try (first | with_reducible assumption | (with_reducible refine ck_nzI ?_; simp; done) | (with_reducible refine ck_nzL ?_; simp; done) | (with_reducible refine vp_in_nI ?_ ?_ <;> first | omega | decide) | (with_reducible refine Nat.le_of_ble_eq_true ?_; rfl) | omega)
              all_goals exact zg _
            · intro zc158
              first | exact absurd rfl zc158 | exact absurd zc158 (by decide) | exact absurd (by decide) zc158 | (exfalso; first | exact absurd zc109 (by first | (simp only [nI_leI (show nn < 2 ^ 31 by omega) (show n < 2 ^ 31 by omega)]; omega) | (simp only [nI_leI (show nn < 2 ^ 31 by omega) (show n < 2 ^ 31 by omega), Decidable.not_not]; omega)) | exact absurd hr (Int32.not_le.mpr zc122) | exact hr (Int32.not_lt.mp zc122) | exact absurd (Int32.not_lt.mp zc122) hr | exact absurd zc158 (by decide) | exact zc158 rfl | exact hr zc122) | (exfalso; simp_all; done)
      · have zhi : ck_hi (A 119 i + way / 10) (60 * fr) (1 <<< (nI c &&& 31)) P (n + 1) = ck_hi (A 119 i + way / 10) (60 * fr) (1 <<< (nI c &&& 31)) P n := by
          rw [ck_hi]
          try dsimp only
          rw [if_neg hh]
        have zg := fun x9 => ih (n + 1) k i c nn way P x9 (by omega) hi hc hnn hN hr hg
        rw [zhi] at zg
        refine hB bX11_hears_92 _ _ _ _ _ _ _ kX11_hears_92 ?_
        dsimp only [bX11_hears_92, kx_wp, kx_step, kx_lI, kx_lL, kx_lA, kx_gl, kx_pI, kx_pL, kx_pR, kx_pA, kx_pV, kx_s1, kx_s2, kx_sl, kx_pre, kx_c2, kx_pl, kx_cmp, kx_oF, kx_eqN, kx_nil, kx_c1, kx_ft, kx_aI, kx_aL, kx_aR, kx_ln, Nat.reduceAdd, Option.toList, List.cons_append, List.nil_append, mW_o, mf_56, m_124, mf_57, m_125, mf_22, mf_41, m_118, mf_23, m_100, mf_24, m_101, mf_43, m_120, mf_44, m_121, mf_42, m_119, mf_58]
        repeat (simp only [ms_124, ms_125, ms_118, ms_100, ms_101, ms_120, ms_121, ms_119, mu_58, mW_so, h22, nI_1, va_us, va_upn, ne_eq, Nat.reduceEqDiff, not_false_eq_true, va_upup, va_up3, ck_z120_s, nI_clamp (show i < 2 ^ 31 by omega), nI_clamp (show c < 2 ^ 31 by omega), hN]; try dsimp only [kx_wp, kx_step, kx_lI, kx_lL, kx_lA, kx_gl, kx_pI, kx_pL, kx_pR, kx_pA, kx_pV, kx_s1, kx_s2, kx_sl, kx_pre, kx_c2, kx_pl, kx_cmp, kx_oF, kx_eqN, kx_nil, kx_c1, kx_ft, kx_aI, kx_aL, kx_aR, kx_ln, Nat.reduceAdd, Option.toList, List.cons_append, List.nil_append, mW_o, mf_56, m_124, mf_57, m_125, mf_22, mf_41, m_118, mf_23, m_100, mf_24, m_101, mf_43, m_120, mf_44, m_121, mf_42, m_119, mf_58])
        repeat' apply And.intro
        all_goals try (first | with_reducible assumption | (with_reducible refine ck_nzI ?_; simp; done) | (with_reducible refine ck_nzL ?_; simp; done) | (with_reducible refine vp_in_nI ?_ ?_ <;> first | omega | decide) | (with_reducible refine Nat.le_of_ble_eq_true ?_; rfl) | omega)
        · intro zc109
          first | exact absurd rfl zc109 | exact absurd zc109 (by decide) | exact absurd (by decide) zc109 | (exfalso; first | exact absurd zc109 (by first | (simp only [nI_leI (show nn < 2 ^ 31 by omega) (show n < 2 ^ 31 by omega)]; omega) | (simp only [nI_leI (show nn < 2 ^ 31 by omega) (show n < 2 ^ 31 by omega), Decidable.not_not]; omega)) | exact absurd hr (Int32.not_le.mpr zc122) | exact hr (Int32.not_lt.mp zc122) | exact absurd (Int32.not_lt.mp zc122) hr | exact absurd zc158 (by decide) | exact zc158 rfl | exact hr zc122) | (exfalso; simp_all; done)
        · intro zc109
          with_reducible first | have ze109 := Int32.not_le.mp zc109 | have ze109 := zc109
          refine hB bX11_hears_112 _ _ _ _ _ _ _ kX11_hears_112 ?_
          dsimp only [bX11_hears_112, kx_wp, kx_step, kx_lI, kx_lL, kx_lA, kx_gl, kx_pI, kx_pL, kx_pR, kx_pA, kx_pV, kx_s1, kx_s2, kx_sl, kx_pre, kx_c2, kx_pl, kx_cmp, kx_oF, kx_eqN, kx_nil, kx_c1, kx_ft, kx_aI, kx_aL, kx_aR, kx_ln, Nat.reduceAdd, Option.toList, List.cons_append, List.nil_append, mW_o, mf_56, m_124, mf_57, m_125, mf_22, mf_41, m_118, mf_23, m_100, mf_24, m_101, mf_43, m_120, mf_44, m_121, mf_42, m_119, mf_58]
          repeat (simp only [ms_124, ms_125, ms_118, ms_100, ms_101, ms_120, ms_121, ms_119, mu_58, mW_so, h22, nI_1, va_us, va_upn, ne_eq, Nat.reduceEqDiff, not_false_eq_true, va_upup, va_up3, ck_z120_s, nI_clamp (show i < 2 ^ 31 by omega), nI_clamp (show c < 2 ^ 31 by omega), hN]; try dsimp only [kx_wp, kx_step, kx_lI, kx_lL, kx_lA, kx_gl, kx_pI, kx_pL, kx_pR, kx_pA, kx_pV, kx_s1, kx_s2, kx_sl, kx_pre, kx_c2, kx_pl, kx_cmp, kx_oF, kx_eqN, kx_nil, kx_c1, kx_ft, kx_aI, kx_aL, kx_aR, kx_ln, Nat.reduceAdd, Option.toList, List.cons_append, List.nil_append, mW_o, mf_56, m_124, mf_57, m_125, mf_22, mf_41, m_118, mf_23, m_100, mf_24, m_101, mf_43, m_120, mf_44, m_121, mf_42, m_119, mf_58])
          repeat' apply And.intro
          all_goals try (first | with_reducible assumption | (with_reducible refine ck_nzI ?_; simp; done) | (with_reducible refine ck_nzL ?_; simp; done) | (with_reducible refine vp_in_nI ?_ ?_ <;> first | omega | decide) | (with_reducible refine Nat.le_of_ble_eq_true ?_; rfl) | omega)
          refine hC.1 365 _ _ _ _ _ _ _ 11 _ _ _ _ _ _ _ _ _ _ _ _ lX11_365 (ct_X11_its l G (c := c) (w := 14) hc (by decide)) ⟨by decide, rfl⟩ (mW_o) rfl rfl (Nat.le_of_ble_eq_true rfl) (by decide) (by decide) (by omega) (by omega) dX11_hears_119 ?_
          refine hB bX11_hears_122 _ _ _ _ _ _ _ kX11_hears_122 ?_
          dsimp only [bX11_hears_122, kx_wp, kx_step, kx_lI, kx_lL, kx_lA, kx_gl, kx_pI, kx_pL, kx_pR, kx_pA, kx_pV, kx_s1, kx_s2, kx_sl, kx_pre, kx_c2, kx_pl, kx_cmp, kx_oF, kx_eqN, kx_nil, kx_c1, kx_ft, kx_aI, kx_aL, kx_aR, kx_ln, Nat.reduceAdd, Option.toList, List.cons_append, List.nil_append, mW_o, mf_56, m_124, mf_57, m_125, mf_22, mf_41, m_118, mf_23, m_100, mf_24, m_101, mf_43, m_120, mf_44, m_121, mf_42, m_119, mf_58]
          repeat (simp only [ms_124, ms_125, ms_118, ms_100, ms_101, ms_120, ms_121, ms_119, mu_58, mW_so, h22, nI_1, va_us, va_upn, ne_eq, Nat.reduceEqDiff, not_false_eq_true, va_upup, va_up3, ck_z120_s, nI_clamp (show i < 2 ^ 31 by omega), nI_clamp (show c < 2 ^ 31 by omega), hN]; try dsimp only [kx_wp, kx_step, kx_lI, kx_lL, kx_lA, kx_gl, kx_pI, kx_pL, kx_pR, kx_pA, kx_pV, kx_s1, kx_s2, kx_sl, kx_pre, kx_c2, kx_pl, kx_cmp, kx_oF, kx_eqN, kx_nil, kx_c1, kx_ft, kx_aI, kx_aL, kx_aR, kx_ln, Nat.reduceAdd, Option.toList, List.cons_append, List.nil_append, mW_o, mf_56, m_124, mf_57, m_125, mf_22, mf_41, m_118, mf_23, m_100, mf_24, m_101, mf_43, m_120, mf_44, m_121, mf_42, m_119, mf_58])
          repeat' apply And.intro
          all_goals try (first | with_reducible assumption | (with_reducible refine ck_nzI ?_; simp; done) | (with_reducible refine ck_nzL ?_; simp; done) | (with_reducible refine vp_in_nI ?_ ?_ <;> first | omega | decide) | (with_reducible refine Nat.le_of_ble_eq_true ?_; rfl) | omega)
          · intro zc122
            first | exact absurd rfl zc122 | exact absurd zc122 (by decide) | exact absurd (by decide) zc122 | (exfalso; first | exact absurd zc109 (by first | (simp only [nI_leI (show nn < 2 ^ 31 by omega) (show n < 2 ^ 31 by omega)]; omega) | (simp only [nI_leI (show nn < 2 ^ 31 by omega) (show n < 2 ^ 31 by omega), Decidable.not_not]; omega)) | exact absurd hr (Int32.not_le.mpr zc122) | exact hr (Int32.not_lt.mp zc122) | exact absurd (Int32.not_lt.mp zc122) hr | exact absurd zc158 (by decide) | exact zc158 rfl | exact hr zc122) | (exfalso; simp_all; done)
          · intro zc122
            with_reducible first | have ze122 := Int32.not_lt.mp zc122 | have ze122 := zc122
            refine hB bX11_hears_125 _ _ _ _ _ _ _ kX11_hears_125 ?_
            dsimp only [bX11_hears_125, kx_wp, kx_step, kx_lI, kx_lL, kx_lA, kx_gl, kx_pI, kx_pL, kx_pR, kx_pA, kx_pV, kx_s1, kx_s2, kx_sl, kx_pre, kx_c2, kx_pl, kx_cmp, kx_oF, kx_eqN, kx_nil, kx_c1, kx_ft, kx_aI, kx_aL, kx_aR, kx_ln, Nat.reduceAdd, Option.toList, List.cons_append, List.nil_append, mW_o, mf_56, m_124, mf_57, m_125, mf_22, mf_41, m_118, mf_23, m_100, mf_24, m_101, mf_43, m_120, mf_44, m_121, mf_42, m_119, mf_58]
            repeat (simp only [ms_124, ms_125, ms_118, ms_100, ms_101, ms_120, ms_121, ms_119, mu_58, mW_so, h22, nI_1, va_us, va_upn, ne_eq, Nat.reduceEqDiff, not_false_eq_true, va_upup, va_up3, ck_z120_s, nI_clamp (show i < 2 ^ 31 by omega), nI_clamp (show c < 2 ^ 31 by omega), hN]; try dsimp only [kx_wp, kx_step, kx_lI, kx_lL, kx_lA, kx_gl, kx_pI, kx_pL, kx_pR, kx_pA, kx_pV, kx_s1, kx_s2, kx_sl, kx_pre, kx_c2, kx_pl, kx_cmp, kx_oF, kx_eqN, kx_nil, kx_c1, kx_ft, kx_aI, kx_aL, kx_aR, kx_ln, Nat.reduceAdd, Option.toList, List.cons_append, List.nil_append, mW_o, mf_56, m_124, mf_57, m_125, mf_22, mf_41, m_118, mf_23, m_100, mf_24, m_101, mf_43, m_120, mf_44, m_121, mf_42, m_119, mf_58])
            repeat' apply And.intro
            all_goals try (first | with_reducible assumption | (with_reducible refine ck_nzI ?_; simp; done) | (with_reducible refine ck_nzL ?_; simp; done) | (with_reducible refine vp_in_nI ?_ ?_ <;> first | omega | decide) | (with_reducible refine Nat.le_of_ble_eq_true ?_; rfl) | omega)
            refine hC.2.1 167 _ _ _ _ _ _ _ _ _ _ _ _ _ _ _ _ _ lX11_167 (ct_X11_within l G) rfl rfl (Nat.le_of_ble_eq_true rfl) (by decide) (by decide) (by omega) (by omega) dX11_hears_155 ?_
            rw [if_neg hh]
            refine hB bX11_hears_158 _ _ _ _ _ _ _ kX11_hears_158 ?_
            dsimp only [bX11_hears_158, kx_wp, kx_step, kx_lI, kx_lL, kx_lA, kx_gl, kx_pI, kx_pL, kx_pR, kx_pA, kx_pV, kx_s1, kx_s2, kx_sl, kx_pre, kx_c2, kx_pl, kx_cmp, kx_oF, kx_eqN, kx_nil, kx_c1, kx_ft, kx_aI, kx_aL, kx_aR, kx_ln, Nat.reduceAdd, Option.toList, List.cons_append, List.nil_append, mW_o, mf_56, m_124, mf_57, m_125, mf_22, mf_41, m_118, mf_23, m_100, mf_24, m_101, mf_43, m_120, mf_44, m_121, mf_42, m_119, mf_58]
            repeat (simp only [ms_124, ms_125, ms_118, ms_100, ms_101, ms_120, ms_121, ms_119, mu_58, mW_so, h22, nI_1, va_us, va_upn, ne_eq, Nat.reduceEqDiff, not_false_eq_true, va_upup, va_up3, ck_z120_s, nI_clamp (show i < 2 ^ 31 by omega), nI_clamp (show c < 2 ^ 31 by omega), hN]; try dsimp only [kx_wp, kx_step, kx_lI, kx_lL, kx_lA, kx_gl, kx_pI, kx_pL, kx_pR, kx_pA, kx_pV, kx_s1, kx_s2, kx_sl, kx_pre, kx_c2, kx_pl, kx_cmp, kx_oF, kx_eqN, kx_nil, kx_c1, kx_ft, kx_aI, kx_aL, kx_aR, kx_ln, Nat.reduceAdd, Option.toList, List.cons_append, List.nil_append, mW_o, mf_56, m_124, mf_57, m_125, mf_22, mf_41, m_118, mf_23, m_100, mf_24, m_101, mf_43, m_120, mf_44, m_121, mf_42, m_119, mf_58])
            repeat' apply And.intro
            all_goals try (first | with_reducible assumption | (with_reducible refine ck_nzI ?_; simp; done) | (with_reducible refine ck_nzL ?_; simp; done) | (with_reducible refine vp_in_nI ?_ ?_ <;> first | omega | decide) | (with_reducible refine Nat.le_of_ble_eq_true ?_; rfl) | omega)
            · intro zc158
              first | exact absurd rfl zc158 | exact absurd zc158 (by decide) | exact absurd (by decide) zc158 | (exfalso; first | exact absurd zc109 (by first | (simp only [nI_leI (show nn < 2 ^ 31 by omega) (show n < 2 ^ 31 by omega)]; omega) | (simp only [nI_leI (show nn < 2 ^ 31 by omega) (show n < 2 ^ 31 by omega), Decidable.not_not]; omega)) | exact absurd hr (Int32.not_le.mpr zc122) | exact hr (Int32.not_lt.mp zc122) | exact absurd (Int32.not_lt.mp zc122) hr | exact absurd zc158 (by decide) | exact zc158 rfl | exact hr zc122) | (exfalso; simp_all; done)
            · intro zc158
              with_reducible first | have ze158 := Decidable.not_not.mp zc158 | have ze158 := zc158
              refine hB bX11_hears_161 _ _ _ _ _ _ _ kX11_hears_161 ?_
              dsimp only [bX11_hears_161, kx_wp, kx_step, kx_lI, kx_lL, kx_lA, kx_gl, kx_pI, kx_pL, kx_pR, kx_pA, kx_pV, kx_s1, kx_s2, kx_sl, kx_pre, kx_c2, kx_pl, kx_cmp, kx_oF, kx_eqN, kx_nil, kx_c1, kx_ft, kx_aI, kx_aL, kx_aR, kx_ln, Nat.reduceAdd, Option.toList, List.cons_append, List.nil_append, mW_o, mf_56, m_124, mf_57, m_125, mf_22, mf_41, m_118, mf_23, m_100, mf_24, m_101, mf_43, m_120, mf_44, m_121, mf_42, m_119, mf_58]
              repeat (simp only [ms_124, ms_125, ms_118, ms_100, ms_101, ms_120, ms_121, ms_119, mu_58, mW_so, h22, nI_1, va_us, va_upn, ne_eq, Nat.reduceEqDiff, not_false_eq_true, va_upup, va_up3, ck_z120_s, nI_clamp (show i < 2 ^ 31 by omega), nI_clamp (show c < 2 ^ 31 by omega), hN]; try dsimp only [kx_wp, kx_step, kx_lI, kx_lL, kx_lA, kx_gl, kx_pI, kx_pL, kx_pR, kx_pA, kx_pV, kx_s1, kx_s2, kx_sl, kx_pre, kx_c2, kx_pl, kx_cmp, kx_oF, kx_eqN, kx_nil, kx_c1, kx_ft, kx_aI, kx_aL, kx_aR, kx_ln, Nat.reduceAdd, Option.toList, List.cons_append, List.nil_append, mW_o, mf_56, m_124, mf_57, m_125, mf_22, mf_41, m_118, mf_23, m_100, mf_24, m_101, mf_43, m_120, mf_44, m_121, mf_42, m_119, mf_58])
              repeat' apply And.intro
              all_goals try (first | with_reducible assumption | (with_reducible refine ck_nzI ?_; simp; done) | (with_reducible refine ck_nzL ?_; simp; done) | (with_reducible refine vp_in_nI ?_ ?_ <;> first | omega | decide) | (with_reducible refine Nat.le_of_ble_eq_true ?_; rfl) | omega)
              refine hB bX11_hears_189 _ _ _ _ _ _ _ kX11_hears_189 ?_
              dsimp only [bX11_hears_189, kx_wp, kx_step, kx_lI, kx_lL, kx_lA, kx_gl, kx_pI, kx_pL, kx_pR, kx_pA, kx_pV, kx_s1, kx_s2, kx_sl, kx_pre, kx_c2, kx_pl, kx_cmp, kx_oF, kx_eqN, kx_nil, kx_c1, kx_ft, kx_aI, kx_aL, kx_aR, kx_ln, Nat.reduceAdd, Option.toList, List.cons_append, List.nil_append, mW_o, mf_56, m_124, mf_57, m_125, mf_22, mf_41, m_118, mf_23, m_100, mf_24, m_101, mf_43, m_120, mf_44, m_121, mf_42, m_119, mf_58]
              repeat (simp only [ms_124, ms_125, ms_118, ms_100, ms_101, ms_120, ms_121, ms_119, mu_58, mW_so, h22, nI_1, va_us, va_upn, ne_eq, Nat.reduceEqDiff, not_false_eq_true, va_upup, va_up3, ck_z120_s, nI_clamp (show i < 2 ^ 31 by omega), nI_clamp (show c < 2 ^ 31 by omega), hN]; try dsimp only [kx_wp, kx_step, kx_lI, kx_lL, kx_lA, kx_gl, kx_pI, kx_pL, kx_pR, kx_pA, kx_pV, kx_s1, kx_s2, kx_sl, kx_pre, kx_c2, kx_pl, kx_cmp, kx_oF, kx_eqN, kx_nil, kx_c1, kx_ft, kx_aI, kx_aL, kx_aR, kx_ln, Nat.reduceAdd, Option.toList, List.cons_append, List.nil_append, mW_o, mf_56, m_124, mf_57, m_125, mf_22, mf_41, m_118, mf_23, m_100, mf_24, m_101, mf_43, m_120, mf_44, m_121, mf_42, m_119, mf_58])
              repeat' apply And.intro
              all_goals try (first | with_reducible assumption | (with_reducible refine ck_nzI ?_; simp; done) | (with_reducible refine ck_nzL ?_; simp; done) | (with_reducible refine vp_in_nI ?_ ?_ <;> first | omega | decide) | (with_reducible refine Nat.le_of_ble_eq_true ?_; rfl) | omega)
              all_goals exact zg _
  have j195 : ∀ (k : Nat) (P : (Nat → Int32) × (Nat → Int32)) (x5 x6 x7 x8 x9 : Option Value), (∀ x5 x6 x7 x8 x9, g 35 [some (.ref 93), some (.int x), some (.int y), some (.int fr), some (.int (nI (k + 1))), x5, x6, x7, x8, x9] [] (mW M (va_up (va_up A 124 (P).1) 125 (P).2) L R) sz 0 0) → g 195 [some (.ref 93), some (.int x), some (.int y), some (.int fr), some (.int (nI k)), x5, x6, x7, x8, x9] [] (mW M (va_up (va_up A 124 (P).1) 125 (P).2) L R) sz 0 0 := by
    intro k P x5 x6 x7 x8 x9 hg
    refine hB bX11_hears_195 _ _ _ _ _ _ _ kX11_hears_195 ?_
    dsimp only [bX11_hears_195, kx_wp, kx_step, kx_lI, kx_lL, kx_lA, kx_gl, kx_pI, kx_pL, kx_pR, kx_pA, kx_pV, kx_s1, kx_s2, kx_sl, kx_pre, kx_c2, kx_pl, kx_cmp, kx_oF, kx_eqN, kx_nil, kx_c1, kx_ft, kx_aI, kx_aL, kx_aR, kx_ln, Nat.reduceAdd, Option.toList, List.cons_append, List.nil_append, mW_o, mf_56, m_124, mf_57, m_125, mf_22, mf_41, m_118, mf_23, m_100, mf_24, m_101, mf_43, m_120, mf_44, m_121, mf_42, m_119, mf_58]
    repeat (simp only [ms_124, ms_125, ms_118, ms_100, ms_101, ms_120, ms_121, ms_119, mu_58, mW_so, h22, nI_1, va_us, va_upn, ne_eq, Nat.reduceEqDiff, not_false_eq_true, va_upup, va_up3, ck_z120_s]; try dsimp only [kx_wp, kx_step, kx_lI, kx_lL, kx_lA, kx_gl, kx_pI, kx_pL, kx_pR, kx_pA, kx_pV, kx_s1, kx_s2, kx_sl, kx_pre, kx_c2, kx_pl, kx_cmp, kx_oF, kx_eqN, kx_nil, kx_c1, kx_ft, kx_aI, kx_aL, kx_aR, kx_ln, Nat.reduceAdd, Option.toList, List.cons_append, List.nil_append, mW_o, mf_56, m_124, mf_57, m_125, mf_22, mf_41, m_118, mf_23, m_100, mf_24, m_101, mf_43, m_120, mf_44, m_121, mf_42, m_119, mf_58])
    repeat' apply And.intro
    all_goals try (first | with_reducible assumption | (with_reducible refine ck_nzI ?_; simp; done) | (with_reducible refine ck_nzL ?_; simp; done) | (with_reducible refine vp_in_nI ?_ ?_ <;> first | omega | decide) | (with_reducible refine Nat.le_of_ble_eq_true ?_; rfl) | omega)
    all_goals exact hg _ _ _ _ _
  have loop35 : ∀ (n9 k : Nat) (x5 x6 x7 x8 x9 : Option Value), k + n9 = min sd 200 → g 35 [some (.ref 93), some (.int x), some (.int y), some (.int fr), some (.int (nI k)), x5, x6, x7, x8, x9] [] (mW M (va_up (va_up A 124 (ck_ho A x y fr sd k).1) 125 (ck_ho A x y fr sd k).2) L R) sz 0 0 := by
    intro n9
    induction n9 with
    | zero =>
      intro k x5 x6 x7 x8 x9 hk
      have hno : ¬ (0 ≤ nI k ∧ nI k < nI sd ∧ nI k < 200) := by
        rw [show (200 : Int32) = nI 200 from rfl, nI_ltI (by omega) (by omega), nI_ltI (by omega) (by omega)]
        omega
      obtain rfl : min sd 200 = k := by omega
      rw [hQQ]
      refine hB bX11_hears_35 _ _ _ _ _ _ _ kX11_hears_35 ?_
      dsimp only [bX11_hears_35, kx_wp, kx_step, kx_lI, kx_lL, kx_lA, kx_gl, kx_pI, kx_pL, kx_pR, kx_pA, kx_pV, kx_s1, kx_s2, kx_sl, kx_pre, kx_c2, kx_pl, kx_cmp, kx_oF, kx_eqN, kx_nil, kx_c1, kx_ft, kx_aI, kx_aL, kx_aR, kx_ln, Nat.reduceAdd, Option.toList, List.cons_append, List.nil_append, mW_o, mf_56, m_124, mf_57, m_125, mf_22, mf_41, m_118, mf_23, m_100, mf_24, m_101, mf_43, m_120, mf_44, m_121, mf_42, m_119, mf_58]
      repeat (simp only [ms_124, ms_125, ms_118, ms_100, ms_101, ms_120, ms_121, ms_119, mu_58, mW_so, h22, nI_1, va_us, va_upn, ne_eq, Nat.reduceEqDiff, not_false_eq_true, va_upup, va_up3, ck_z120_s]; try dsimp only [kx_wp, kx_step, kx_lI, kx_lL, kx_lA, kx_gl, kx_pI, kx_pL, kx_pR, kx_pA, kx_pV, kx_s1, kx_s2, kx_sl, kx_pre, kx_c2, kx_pl, kx_cmp, kx_oF, kx_eqN, kx_nil, kx_c1, kx_ft, kx_aI, kx_aL, kx_aR, kx_ln, Nat.reduceAdd, Option.toList, List.cons_append, List.nil_append, mW_o, mf_56, m_124, mf_57, m_125, mf_22, mf_41, m_118, mf_23, m_100, mf_24, m_101, mf_43, m_120, mf_44, m_121, mf_42, m_119, mf_58])
      repeat' apply And.intro
      all_goals try (first | with_reducible assumption | (with_reducible refine ck_nzI ?_; simp; done) | (with_reducible refine ck_nzL ?_; simp; done) | (with_reducible refine vp_in_nI ?_ ?_ <;> first | omega | decide) | (with_reducible refine Nat.le_of_ble_eq_true ?_; rfl) | omega)
      refine hC.1 467 _ _ _ _ _ _ _ 11 _ _ _ _ _ _ _ _ _ _ _ _ lX11_467 (ct_X11_isKept l G) ⟨by decide, rfl⟩ (mW_o) rfl rfl (Nat.le_of_ble_eq_true rfl) (by decide) (by decide) (by omega) (by omega) dX11_hears_38 ?_
      rw [h22, if_neg hno]
      refine hB bX11_hears_41 _ _ _ _ _ _ _ kX11_hears_41 ?_
      dsimp only [bX11_hears_41, kx_wp, kx_step, kx_lI, kx_lL, kx_lA, kx_gl, kx_pI, kx_pL, kx_pR, kx_pA, kx_pV, kx_s1, kx_s2, kx_sl, kx_pre, kx_c2, kx_pl, kx_cmp, kx_oF, kx_eqN, kx_nil, kx_c1, kx_ft, kx_aI, kx_aL, kx_aR, kx_ln, Nat.reduceAdd, Option.toList, List.cons_append, List.nil_append, mW_o, mf_56, m_124, mf_57, m_125, mf_22, mf_41, m_118, mf_23, m_100, mf_24, m_101, mf_43, m_120, mf_44, m_121, mf_42, m_119, mf_58]
      repeat (simp only [ms_124, ms_125, ms_118, ms_100, ms_101, ms_120, ms_121, ms_119, mu_58, mW_so, h22, nI_1, va_us, va_upn, ne_eq, Nat.reduceEqDiff, not_false_eq_true, va_upup, va_up3, ck_z120_s]; try dsimp only [kx_wp, kx_step, kx_lI, kx_lL, kx_lA, kx_gl, kx_pI, kx_pL, kx_pR, kx_pA, kx_pV, kx_s1, kx_s2, kx_sl, kx_pre, kx_c2, kx_pl, kx_cmp, kx_oF, kx_eqN, kx_nil, kx_c1, kx_ft, kx_aI, kx_aL, kx_aR, kx_ln, Nat.reduceAdd, Option.toList, List.cons_append, List.nil_append, mW_o, mf_56, m_124, mf_57, m_125, mf_22, mf_41, m_118, mf_23, m_100, mf_24, m_101, mf_43, m_120, mf_44, m_121, mf_42, m_119, mf_58])
      repeat' apply And.intro
      all_goals try (first | with_reducible assumption | (with_reducible refine ck_nzI ?_; simp; done) | (with_reducible refine ck_nzL ?_; simp; done) | (with_reducible refine vp_in_nI ?_ ?_ <;> first | omega | decide) | (with_reducible refine Nat.le_of_ble_eq_true ?_; rfl) | omega)
      · intro zc41
        have ze41 := zc41
        all_goals exact j201 _ _ _ _ _ _
      · intro zc41
        first | exact absurd rfl zc41 | exact absurd zc41 (by decide) | exact absurd (by decide) zc41 | (exfalso; first | exact absurd zc41 (by decide) | exact zc41 rfl) | (exfalso; simp_all; done)
    | succ n9 ih =>
      intro k x5 x6 x7 x8 x9 hk
      have hyes : 0 ≤ nI k ∧ nI k < nI sd ∧ nI k < 200 := by
        rw [show (200 : Int32) = nI 200 from rfl, nI_ltI (by omega) (by omega), nI_ltI (by omega) (by omega)]
        exact ⟨nI_pos' (by omega), by omega, by omega⟩
      have zi1 : nI sd - 1 - nI k - (nI sd - 1 - nI k) / 200 * 200 = nI ((sd - 1 - k) % 200) := by
        rw [show (1 : Int32) = nI 1 from rfl, pk_sub (show 1 ≤ sd by omega), pk_sub (show k ≤ sd - 1 by omega), show (200 : Int32) = nI 200 from rfl, pk_rem (by omega) (by decide) (by decide)]
      have hi : (sd - 1 - k) % 200 < 200 := Nat.mod_lt _ (by decide)
      have hi2 : (sd - 1 - k) % 200 < sd := Nat.lt_of_le_of_lt (Nat.mod_le _ _) (by omega)
      obtain ⟨HK, hHK⟩ : ∃ HK, HK = ck_ho A x y fr sd (k + 1) := ⟨_, rfl⟩
      have zho := hHK
      rw [ck_ho] at zho
      try dsimp only at zho
      generalize (sd - 1 - k) % 200 = i at zi1 hi hi2 zho
      obtain ⟨ci, nn, hc, h118, hnn, hN⟩ := hso i hi hi2
      rw [h118, nI_clamp (show ci < 2 ^ 31 by omega), hN, nI_clamp (show nn < 2 ^ 31 by omega)] at zho
      have zw : ck_abs (x - A 100 ci) + ck_abs (y - A 101 ci) = ck_wy A x y ci := rfl
      have zg := fun P (hP : P = HK) x5 x6 x7 x8 x9 => j195 k P x5 x6 x7 x8 x9 (by rw [hP, hHK]; exact fun x5 x6 x7 x8 x9 => ih (k + 1) x5 x6 x7 x8 x9 (by omega))
      refine hB bX11_hears_35 _ _ _ _ _ _ _ kX11_hears_35 ?_
      dsimp only [bX11_hears_35, kx_wp, kx_step, kx_lI, kx_lL, kx_lA, kx_gl, kx_pI, kx_pL, kx_pR, kx_pA, kx_pV, kx_s1, kx_s2, kx_sl, kx_pre, kx_c2, kx_pl, kx_cmp, kx_oF, kx_eqN, kx_nil, kx_c1, kx_ft, kx_aI, kx_aL, kx_aR, kx_ln, Nat.reduceAdd, Option.toList, List.cons_append, List.nil_append, mW_o, mf_56, m_124, mf_57, m_125, mf_22, mf_41, m_118, mf_23, m_100, mf_24, m_101, mf_43, m_120, mf_44, m_121, mf_42, m_119, mf_58]
      repeat (simp only [ms_124, ms_125, ms_118, ms_100, ms_101, ms_120, ms_121, ms_119, mu_58, mW_so, h22, nI_1, va_us, va_upn, ne_eq, Nat.reduceEqDiff, not_false_eq_true, va_upup, va_up3, ck_z120_s, zi1, h118, zw, nI_clamp (show i < 2 ^ 31 by omega), nI_clamp (show ci < 2 ^ 31 by omega)]; try dsimp only [kx_wp, kx_step, kx_lI, kx_lL, kx_lA, kx_gl, kx_pI, kx_pL, kx_pR, kx_pA, kx_pV, kx_s1, kx_s2, kx_sl, kx_pre, kx_c2, kx_pl, kx_cmp, kx_oF, kx_eqN, kx_nil, kx_c1, kx_ft, kx_aI, kx_aL, kx_aR, kx_ln, Nat.reduceAdd, Option.toList, List.cons_append, List.nil_append, mW_o, mf_56, m_124, mf_57, m_125, mf_22, mf_41, m_118, mf_23, m_100, mf_24, m_101, mf_43, m_120, mf_44, m_121, mf_42, m_119, mf_58])
      repeat' apply And.intro
      all_goals try (first | with_reducible assumption | (with_reducible refine ck_nzI ?_; simp; done) | (with_reducible refine ck_nzL ?_; simp; done) | (with_reducible refine vp_in_nI ?_ ?_ <;> first | omega | decide) | (with_reducible refine Nat.le_of_ble_eq_true ?_; rfl) | omega)
      refine hC.1 467 _ _ _ _ _ _ _ 11 _ _ _ _ _ _ _ _ _ _ _ _ lX11_467 (ct_X11_isKept l G) ⟨by decide, rfl⟩ (mW_o) rfl rfl (Nat.le_of_ble_eq_true rfl) (by decide) (by decide) (by omega) (by omega) dX11_hears_38 ?_
      rw [h22, if_pos hyes]
      refine hB bX11_hears_41 _ _ _ _ _ _ _ kX11_hears_41 ?_
      dsimp only [bX11_hears_41, kx_wp, kx_step, kx_lI, kx_lL, kx_lA, kx_gl, kx_pI, kx_pL, kx_pR, kx_pA, kx_pV, kx_s1, kx_s2, kx_sl, kx_pre, kx_c2, kx_pl, kx_cmp, kx_oF, kx_eqN, kx_nil, kx_c1, kx_ft, kx_aI, kx_aL, kx_aR, kx_ln, Nat.reduceAdd, Option.toList, List.cons_append, List.nil_append, mW_o, mf_56, m_124, mf_57, m_125, mf_22, mf_41, m_118, mf_23, m_100, mf_24, m_101, mf_43, m_120, mf_44, m_121, mf_42, m_119, mf_58]
      repeat (simp only [ms_124, ms_125, ms_118, ms_100, ms_101, ms_120, ms_121, ms_119, mu_58, mW_so, h22, nI_1, va_us, va_upn, ne_eq, Nat.reduceEqDiff, not_false_eq_true, va_upup, va_up3, ck_z120_s, zi1, h118, zw, nI_clamp (show i < 2 ^ 31 by omega), nI_clamp (show ci < 2 ^ 31 by omega)]; try dsimp only [kx_wp, kx_step, kx_lI, kx_lL, kx_lA, kx_gl, kx_pI, kx_pL, kx_pR, kx_pA, kx_pV, kx_s1, kx_s2, kx_sl, kx_pre, kx_c2, kx_pl, kx_cmp, kx_oF, kx_eqN, kx_nil, kx_c1, kx_ft, kx_aI, kx_aL, kx_aR, kx_ln, Nat.reduceAdd, Option.toList, List.cons_append, List.nil_append, mW_o, mf_56, m_124, mf_57, m_125, mf_22, mf_41, m_118, mf_23, m_100, mf_24, m_101, mf_43, m_120, mf_44, m_121, mf_42, m_119, mf_58])
      repeat' apply And.intro
      all_goals try (first | with_reducible assumption | (with_reducible refine ck_nzI ?_; simp; done) | (with_reducible refine ck_nzL ?_; simp; done) | (with_reducible refine vp_in_nI ?_ ?_ <;> first | omega | decide) | (with_reducible refine Nat.le_of_ble_eq_true ?_; rfl) | omega)
      · intro zc41
        first | exact absurd rfl zc41 | exact absurd zc41 (by decide) | exact absurd (by decide) zc41 | (exfalso; first | exact absurd zc41 (by decide) | exact zc41 rfl) | (exfalso; simp_all; done)
      · intro zc41
        have ze41 := zc41
        refine hB bX11_hears_44 _ _ _ _ _ _ _ kX11_hears_44 ?_
        dsimp only [bX11_hears_44, kx_wp, kx_step, kx_lI, kx_lL, kx_lA, kx_gl, kx_pI, kx_pL, kx_pR, kx_pA, kx_pV, kx_s1, kx_s2, kx_sl, kx_pre, kx_c2, kx_pl, kx_cmp, kx_oF, kx_eqN, kx_nil, kx_c1, kx_ft, kx_aI, kx_aL, kx_aR, kx_ln, Nat.reduceAdd, Option.toList, List.cons_append, List.nil_append, mW_o, mf_56, m_124, mf_57, m_125, mf_22, mf_41, m_118, mf_23, m_100, mf_24, m_101, mf_43, m_120, mf_44, m_121, mf_42, m_119, mf_58]
        repeat (simp only [ms_124, ms_125, ms_118, ms_100, ms_101, ms_120, ms_121, ms_119, mu_58, mW_so, h22, nI_1, va_us, va_upn, ne_eq, Nat.reduceEqDiff, not_false_eq_true, va_upup, va_up3, ck_z120_s, zi1, h118, zw, nI_clamp (show i < 2 ^ 31 by omega), nI_clamp (show ci < 2 ^ 31 by omega)]; try dsimp only [kx_wp, kx_step, kx_lI, kx_lL, kx_lA, kx_gl, kx_pI, kx_pL, kx_pR, kx_pA, kx_pV, kx_s1, kx_s2, kx_sl, kx_pre, kx_c2, kx_pl, kx_cmp, kx_oF, kx_eqN, kx_nil, kx_c1, kx_ft, kx_aI, kx_aL, kx_aR, kx_ln, Nat.reduceAdd, Option.toList, List.cons_append, List.nil_append, mW_o, mf_56, m_124, mf_57, m_125, mf_22, mf_41, m_118, mf_23, m_100, mf_24, m_101, mf_43, m_120, mf_44, m_121, mf_42, m_119, mf_58])
        repeat' apply And.intro
        all_goals try (first | with_reducible assumption | (with_reducible refine ck_nzI ?_; simp; done) | (with_reducible refine ck_nzL ?_; simp; done) | (with_reducible refine vp_in_nI ?_ ?_ <;> first | omega | decide) | (with_reducible refine Nat.le_of_ble_eq_true ?_; rfl) | omega)
        refine hC.2.1 479 _ _ _ _ _ _ _ _ _ _ _ _ _ _ _ _ _ lX11_479 (ct_X11_far l G) rfl rfl (Nat.le_of_ble_eq_true rfl) (by decide) (by decide) (by omega) (by omega) dX11_hears_84 ?_
        refine hB bX11_hears_87 _ _ _ _ _ _ _ kX11_hears_87 ?_
        dsimp only [bX11_hears_87, kx_wp, kx_step, kx_lI, kx_lL, kx_lA, kx_gl, kx_pI, kx_pL, kx_pR, kx_pA, kx_pV, kx_s1, kx_s2, kx_sl, kx_pre, kx_c2, kx_pl, kx_cmp, kx_oF, kx_eqN, kx_nil, kx_c1, kx_ft, kx_aI, kx_aL, kx_aR, kx_ln, Nat.reduceAdd, Option.toList, List.cons_append, List.nil_append, mW_o, mf_56, m_124, mf_57, m_125, mf_22, mf_41, m_118, mf_23, m_100, mf_24, m_101, mf_43, m_120, mf_44, m_121, mf_42, m_119, mf_58]
        repeat (simp only [ms_124, ms_125, ms_118, ms_100, ms_101, ms_120, ms_121, ms_119, mu_58, mW_so, h22, nI_1, va_us, va_upn, ne_eq, Nat.reduceEqDiff, not_false_eq_true, va_upup, va_up3, ck_z120_s, zi1, h118, zw, nI_clamp (show i < 2 ^ 31 by omega), nI_clamp (show ci < 2 ^ 31 by omega)]; try dsimp only [kx_wp, kx_step, kx_lI, kx_lL, kx_lA, kx_gl, kx_pI, kx_pL, kx_pR, kx_pA, kx_pV, kx_s1, kx_s2, kx_sl, kx_pre, kx_c2, kx_pl, kx_cmp, kx_oF, kx_eqN, kx_nil, kx_c1, kx_ft, kx_aI, kx_aL, kx_aR, kx_ln, Nat.reduceAdd, Option.toList, List.cons_append, List.nil_append, mW_o, mf_56, m_124, mf_57, m_125, mf_22, mf_41, m_118, mf_23, m_100, mf_24, m_101, mf_43, m_120, mf_44, m_121, mf_42, m_119, mf_58])
        repeat' apply And.intro
        all_goals try (first | with_reducible assumption | (with_reducible refine ck_nzI ?_; simp; done) | (with_reducible refine ck_nzL ?_; simp; done) | (with_reducible refine vp_in_nI ?_ ?_ <;> first | omega | decide) | (with_reducible refine Nat.le_of_ble_eq_true ?_; rfl) | omega)
        by_cases hr : ck_wy A x y ci ≤ A 102 (16 * ci + 14)
        · rw [if_pos hr] at zho
          exact inner nn 0 k i ci nn _ _ _ (by omega) hi hc hnn hN hr (fun x8 x9 => zg _ zho.symm _ _ _ _ _)
        · rw [if_neg hr] at zho
          exact j92n k i ci nn _ _ _ hi hc hnn hN hr (fun x8 x9 => zg _ zho.symm _ _ _ _ _)
  have j32 : ∀ x4, g 32 [some (.ref 93), some (.int x), some (.int y), some (.int fr), x4, none, none, none, none, none] [] (mW M (va_up (va_up A 124 (ck_ho A x y fr sd 0).1) 125 (ck_ho A x y fr sd 0).2) L R) sz 0 0 := by
    intro x4
    refine hB bX11_hears_32 _ _ _ _ _ _ _ kX11_hears_32 ?_
    dsimp only [bX11_hears_32, kx_wp, kx_step, kx_lI, kx_lL, kx_lA, kx_gl, kx_pI, kx_pL, kx_pR, kx_pA, kx_pV, kx_s1, kx_s2, kx_sl, kx_pre, kx_c2, kx_pl, kx_cmp, kx_oF, kx_eqN, kx_nil, kx_c1, kx_ft, kx_aI, kx_aL, kx_aR, kx_ln, Nat.reduceAdd, Option.toList, List.cons_append, List.nil_append, mW_o, mf_56, m_124, mf_57, m_125, mf_22, mf_41, m_118, mf_23, m_100, mf_24, m_101, mf_43, m_120, mf_44, m_121, mf_42, m_119, mf_58]
    repeat (simp only [ms_124, ms_125, ms_118, ms_100, ms_101, ms_120, ms_121, ms_119, mu_58, mW_so, h22, nI_1, va_us, va_upn, ne_eq, Nat.reduceEqDiff, not_false_eq_true, va_upup, va_up3, ck_z120_s]; try dsimp only [kx_wp, kx_step, kx_lI, kx_lL, kx_lA, kx_gl, kx_pI, kx_pL, kx_pR, kx_pA, kx_pV, kx_s1, kx_s2, kx_sl, kx_pre, kx_c2, kx_pl, kx_cmp, kx_oF, kx_eqN, kx_nil, kx_c1, kx_ft, kx_aI, kx_aL, kx_aR, kx_ln, Nat.reduceAdd, Option.toList, List.cons_append, List.nil_append, mW_o, mf_56, m_124, mf_57, m_125, mf_22, mf_41, m_118, mf_23, m_100, mf_24, m_101, mf_43, m_120, mf_44, m_121, mf_42, m_119, mf_58])
    repeat' apply And.intro
    all_goals try (first | with_reducible assumption | (with_reducible refine ck_nzI ?_; simp; done) | (with_reducible refine ck_nzL ?_; simp; done) | (with_reducible refine vp_in_nI ?_ ?_ <;> first | omega | decide) | (with_reducible refine Nat.le_of_ble_eq_true ?_; rfl) | omega)
    exact loop35 (min sd 200) 0 _ _ _ _ _ (by omega)
  have loop3 : ∀ (n9 s : Nat), s + n9 = 120 → g 3 [some (.ref 93), some (.int x), some (.int y), some (.int fr), some (.int (nI s)), none, none, none, none, none] [] (mW M (va_up (va_up A 124 (ck_z120 (A 124) s)) 125 (ck_z120 (A 125) s)) L R) sz 0 0 := by
    intro n9
    induction n9 with
    | zero =>
      intro s hs
      obtain rfl : 120 = s := by omega
      refine hB bX11_hears_3 _ _ _ _ _ _ _ kX11_hears_3 ?_
      dsimp only [bX11_hears_3, kx_wp, kx_step, kx_lI, kx_lL, kx_lA, kx_gl, kx_pI, kx_pL, kx_pR, kx_pA, kx_pV, kx_s1, kx_s2, kx_sl, kx_pre, kx_c2, kx_pl, kx_cmp, kx_oF, kx_eqN, kx_nil, kx_c1, kx_ft, kx_aI, kx_aL, kx_aR, kx_ln, Nat.reduceAdd, Option.toList, List.cons_append, List.nil_append, mW_o, mf_56, m_124, mf_57, m_125, mf_22, mf_41, m_118, mf_23, m_100, mf_24, m_101, mf_43, m_120, mf_44, m_121, mf_42, m_119, mf_58]
      repeat (simp only [ms_124, ms_125, ms_118, ms_100, ms_101, ms_120, ms_121, ms_119, mu_58, mW_so, h22, nI_1, va_us, va_upn, ne_eq, Nat.reduceEqDiff, not_false_eq_true, va_upup, va_up3, ck_z120_s]; try dsimp only [kx_wp, kx_step, kx_lI, kx_lL, kx_lA, kx_gl, kx_pI, kx_pL, kx_pR, kx_pA, kx_pV, kx_s1, kx_s2, kx_sl, kx_pre, kx_c2, kx_pl, kx_cmp, kx_oF, kx_eqN, kx_nil, kx_c1, kx_ft, kx_aI, kx_aL, kx_aR, kx_ln, Nat.reduceAdd, Option.toList, List.cons_append, List.nil_append, mW_o, mf_56, m_124, mf_57, m_125, mf_22, mf_41, m_118, mf_23, m_100, mf_24, m_101, mf_43, m_120, mf_44, m_121, mf_42, m_119, mf_58])
      repeat' apply And.intro
      all_goals try (first | with_reducible assumption | (with_reducible refine ck_nzI ?_; simp; done) | (with_reducible refine ck_nzL ?_; simp; done) | (with_reducible refine vp_in_nI ?_ ?_ <;> first | omega | decide) | (with_reducible refine Nat.le_of_ble_eq_true ?_; rfl) | omega)
      · intro zc7
        with_reducible first | have ze7 := Int32.not_lt.mpr zc7 | have ze7 := zc7
        all_goals exact j32 _
      · intro zc7
        first | exact absurd rfl zc7 | exact absurd zc7 (by decide) | exact absurd (by decide) zc7 | (exfalso; first | exact absurd zc7 (by first | (rw [show (120 : Int32) = nI 120 from rfl, nI_leI (show 120 < 2 ^ 31 by omega) (show 120 < 2 ^ 31 by omega)]; omega) | (rw [show (120 : Int32) = nI 120 from rfl, nI_leI (show 120 < 2 ^ 31 by omega) (show 120 < 2 ^ 31 by omega), Decidable.not_not]; omega)) | exact zc7 (by decide)) | (exfalso; simp_all; done)
    | succ n9 ih =>
      intro s hs
      refine hB bX11_hears_3 _ _ _ _ _ _ _ kX11_hears_3 ?_
      dsimp only [bX11_hears_3, kx_wp, kx_step, kx_lI, kx_lL, kx_lA, kx_gl, kx_pI, kx_pL, kx_pR, kx_pA, kx_pV, kx_s1, kx_s2, kx_sl, kx_pre, kx_c2, kx_pl, kx_cmp, kx_oF, kx_eqN, kx_nil, kx_c1, kx_ft, kx_aI, kx_aL, kx_aR, kx_ln, Nat.reduceAdd, Option.toList, List.cons_append, List.nil_append, mW_o, mf_56, m_124, mf_57, m_125, mf_22, mf_41, m_118, mf_23, m_100, mf_24, m_101, mf_43, m_120, mf_44, m_121, mf_42, m_119, mf_58]
      repeat (simp only [ms_124, ms_125, ms_118, ms_100, ms_101, ms_120, ms_121, ms_119, mu_58, mW_so, h22, nI_1, va_us, va_upn, ne_eq, Nat.reduceEqDiff, not_false_eq_true, va_upup, va_up3, ck_z120_s, nI_clamp (show s < 2 ^ 31 by omega)]; try dsimp only [kx_wp, kx_step, kx_lI, kx_lL, kx_lA, kx_gl, kx_pI, kx_pL, kx_pR, kx_pA, kx_pV, kx_s1, kx_s2, kx_sl, kx_pre, kx_c2, kx_pl, kx_cmp, kx_oF, kx_eqN, kx_nil, kx_c1, kx_ft, kx_aI, kx_aL, kx_aR, kx_ln, Nat.reduceAdd, Option.toList, List.cons_append, List.nil_append, mW_o, mf_56, m_124, mf_57, m_125, mf_22, mf_41, m_118, mf_23, m_100, mf_24, m_101, mf_43, m_120, mf_44, m_121, mf_42, m_119, mf_58])
      repeat' apply And.intro
      all_goals try (first | with_reducible assumption | (with_reducible refine ck_nzI ?_; simp; done) | (with_reducible refine ck_nzL ?_; simp; done) | (with_reducible refine vp_in_nI ?_ ?_ <;> first | omega | decide) | (with_reducible refine Nat.le_of_ble_eq_true ?_; rfl) | omega)
      · intro zc7
        first | exact absurd rfl zc7 | exact absurd zc7 (by decide) | exact absurd (by decide) zc7 | (exfalso; first | exact absurd zc7 (by first | (rw [show (120 : Int32) = nI 120 from rfl, nI_leI (show 120 < 2 ^ 31 by omega) (show s < 2 ^ 31 by omega)]; omega) | (rw [show (120 : Int32) = nI 120 from rfl, nI_leI (show 120 < 2 ^ 31 by omega) (show s < 2 ^ 31 by omega), Decidable.not_not]; omega))) | (exfalso; simp_all; done)
      · intro zc7
        with_reducible first | have ze7 := Int32.not_le.mp zc7 | have ze7 := zc7
        refine hB bX11_hears_10 _ _ _ _ _ _ _ kX11_hears_10 ?_
        dsimp only [bX11_hears_10, kx_wp, kx_step, kx_lI, kx_lL, kx_lA, kx_gl, kx_pI, kx_pL, kx_pR, kx_pA, kx_pV, kx_s1, kx_s2, kx_sl, kx_pre, kx_c2, kx_pl, kx_cmp, kx_oF, kx_eqN, kx_nil, kx_c1, kx_ft, kx_aI, kx_aL, kx_aR, kx_ln, Nat.reduceAdd, Option.toList, List.cons_append, List.nil_append, mW_o, mf_56, m_124, mf_57, m_125, mf_22, mf_41, m_118, mf_23, m_100, mf_24, m_101, mf_43, m_120, mf_44, m_121, mf_42, m_119, mf_58]
        repeat (simp only [ms_124, ms_125, ms_118, ms_100, ms_101, ms_120, ms_121, ms_119, mu_58, mW_so, h22, nI_1, va_us, va_upn, ne_eq, Nat.reduceEqDiff, not_false_eq_true, va_upup, va_up3, ck_z120_s, nI_clamp (show s < 2 ^ 31 by omega)]; try dsimp only [kx_wp, kx_step, kx_lI, kx_lL, kx_lA, kx_gl, kx_pI, kx_pL, kx_pR, kx_pA, kx_pV, kx_s1, kx_s2, kx_sl, kx_pre, kx_c2, kx_pl, kx_cmp, kx_oF, kx_eqN, kx_nil, kx_c1, kx_ft, kx_aI, kx_aL, kx_aR, kx_ln, Nat.reduceAdd, Option.toList, List.cons_append, List.nil_append, mW_o, mf_56, m_124, mf_57, m_125, mf_22, mf_41, m_118, mf_23, m_100, mf_24, m_101, mf_43, m_120, mf_44, m_121, mf_42, m_119, mf_58])
        repeat' apply And.intro
        all_goals try (first | with_reducible assumption | (with_reducible refine ck_nzI ?_; simp; done) | (with_reducible refine ck_nzL ?_; simp; done) | (with_reducible refine vp_in_nI ?_ ?_ <;> first | omega | decide) | (with_reducible refine Nat.le_of_ble_eq_true ?_; rfl) | omega)
        all_goals exact ih (s + 1) (by omega)
  refine hB bX11_hears_0 _ _ _ _ _ _ _ kX11_hears_0 ?_
  dsimp only [bX11_hears_0, kx_wp, kx_step, kx_lI, kx_lL, kx_lA, kx_gl, kx_pI, kx_pL, kx_pR, kx_pA, kx_pV, kx_s1, kx_s2, kx_sl, kx_pre, kx_c2, kx_pl, kx_cmp, kx_oF, kx_eqN, kx_nil, kx_c1, kx_ft, kx_aI, kx_aL, kx_aR, kx_ln, Nat.reduceAdd, Option.toList, List.cons_append, List.nil_append, mW_o, mf_56, m_124, mf_57, m_125, mf_22, mf_41, m_118, mf_23, m_100, mf_24, m_101, mf_43, m_120, mf_44, m_121, mf_42, m_119, mf_58]
  repeat (simp only [ms_124, ms_125, ms_118, ms_100, ms_101, ms_120, ms_121, ms_119, mu_58, mW_so, h22, nI_1, va_us, va_upn, ne_eq, Nat.reduceEqDiff, not_false_eq_true, va_upup, va_up3, ck_z120_s]; try dsimp only [kx_wp, kx_step, kx_lI, kx_lL, kx_lA, kx_gl, kx_pI, kx_pL, kx_pR, kx_pA, kx_pV, kx_s1, kx_s2, kx_sl, kx_pre, kx_c2, kx_pl, kx_cmp, kx_oF, kx_eqN, kx_nil, kx_c1, kx_ft, kx_aI, kx_aL, kx_aR, kx_ln, Nat.reduceAdd, Option.toList, List.cons_append, List.nil_append, mW_o, mf_56, m_124, mf_57, m_125, mf_22, mf_41, m_118, mf_23, m_100, mf_24, m_101, mf_43, m_120, mf_44, m_121, mf_42, m_119, mf_58])
  repeat' apply And.intro
  all_goals try (first | with_reducible assumption | (with_reducible refine ck_nzI ?_; simp; done) | (with_reducible refine ck_nzL ?_; simp; done) | (with_reducible refine vp_in_nI ?_ ?_ <;> first | omega | decide) | (with_reducible refine Nat.le_of_ble_eq_true ?_; rfl) | omega)
  have ze := loop3 120 0 (by omega)
  rw [ck_z120_0, ck_z120_0] at ze
  rw [show va_up (va_up A 124 (A 124)) 125 (A 125) = A by rw [va_upself]; exact va_upself] at ze
  exact ze


/-- how many TRIPS bring the wheel in step: t, or more; n of them are untried -/
def ck_mt (A : Nat → Nat → Int32) (c wm nx p : Nat) : Nat → Nat → Nat
  | 0, t => t
  | n + 1, t => if ck_sx A c wm nx ((p + t) % wm) 24 0 = 0 then ck_mt A c wm nx p n (t + 1) else t
def ck_mc (A : Nat → Nat → Int32) (c wm p : Nat) : Nat → Int32
  | 0 => 0
  | t + 1 => ck_mc A c wm p t + (1 + A 104 (24 * c + (p + t) % wm))
def ck_ml (A : Nat → Nat → Int32) (c wm nx p lf : Nat) : Nat → Nat → Nat
  | 0, _ => lf
  | n + 1, k => if ck_sx A c wm nx ((p + wm - k) % wm) 24 0 = 0 then ck_ml A c wm nx p lf n (k + 1) else k
theorem ck_mt_le (A : Nat → Nat → Int32) (c wm nx p : Nat) : ∀ n t, t ≤ ck_mt A c wm nx p n t ∧ ck_mt A c wm nx p n t ≤ t + n
  | 0, t => ⟨Nat.le_refl _, Nat.le_refl _⟩
  | n + 1, t => by
    unfold ck_mt
    split
    · have := ck_mt_le A c wm nx p n (t + 1)
      omega
    · omega
theorem ck_ml_le (A : Nat → Nat → Int32) (c wm nx p lf : Nat) : ∀ n k, k + n ≤ lf ∨ n = 0 → ck_ml A c wm nx p lf n k ≤ lf
  | 0, k, _ => Nat.le_refl _
  | n + 1, k, h => by
    unfold ck_ml
    split
    · exact ck_ml_le A c wm nx p lf n (k + 1) (by omega)
    · omega
/-- the acts told: cost, how many, and whether LIFTS -/
def ck_fmM (M : Nat → Int32) (rg cost : Int32) (t l : Nat) : Nat → Int32 :=
  let M1 := upd (upd (upd M 53 cost) 54 (nI t)) 55 0
  let M2 := upd (upd (upd M1 53 (nI (10 * l))) 54 (nI l)) 55 1
  if cost - nI t ≤ rg then (if cost ≤ nI (10 * l) then M1 else M2) else M2

def bX11_findMend_0 : List kx_O := [(.aload_n 0, 0, 0, 0, .null), (.getfield 44, 11, 26, 0, .null), (.iload_n 1, 1, 0, 0, .null), (.iaload, 0, 0, 0, .null), (.istore_n 2, 2, 0, 0, .null), (.iconst 0, 0, 0, 0, .int 0), (.istore_n 3, 3, 0, 0, .null), (.iconst 0, 0, 0, 0, .int 0), (.istore 4, 4, 0, 0, .null)]
theorem kX11_findMend_0 : kx_oks kxL_X11 false cX11_findMend 0 bX11_findMend_0 = true := by decide +kernel
def bX11_findMend_12 : List kx_O := [(.iload_n 3, 3, 0, 0, .null), (.iload_n 2, 2, 0, 0, .null), (.if_icmp .ge 54, 68, 0, 0, .null)]
theorem kX11_findMend_12 : kx_oks kxL_X11 false cX11_findMend 12 bX11_findMend_12 = true := by decide +kernel
def bX11_findMend_17 : List kx_O := [(.aload_n 0, 0, 0, 0, .null), (.iload_n 1, 1, 0, 0, .null), (.aload_n 0, 0, 0, 0, .null), (.getfield 65, 11, 33, 0, .null), (.iload_n 1, 1, 0, 0, .null), (.iaload, 0, 0, 0, .null), (.iload_n 3, 3, 0, 0, .null), (.iadd, 0, 0, 0, .null), (.iload_n 2, 2, 0, 0, .null), (.irem, 0, 0, 0, .null)]
theorem kX11_findMend_17 : kx_oks kxL_X11 false cX11_findMend 17 bX11_findMend_17 = true := by decide +kernel
def bX11_findMend_32 : List kx_O := [(.ifCond .ne 36, 68, 0, 0, .null)]
theorem kX11_findMend_32 : kx_oks kxL_X11 false cX11_findMend 32 bX11_findMend_32 = true := by decide +kernel
def bX11_findMend_35 : List kx_O := [(.iload 4, 4, 0, 0, .null), (.iconst 1, 0, 0, 0, .int 1), (.aload_n 0, 0, 0, 0, .null), (.getfield 47, 11, 27, 0, .null), (.bipush 24, 0, 0, 0, .int 24), (.iload_n 1, 1, 0, 0, .null), (.imul, 0, 0, 0, .null), (.aload_n 0, 0, 0, 0, .null), (.getfield 65, 11, 33, 0, .null), (.iload_n 1, 1, 0, 0, .null), (.iaload, 0, 0, 0, .null), (.iload_n 3, 3, 0, 0, .null), (.iadd, 0, 0, 0, .null), (.iload_n 2, 2, 0, 0, .null), (.irem, 0, 0, 0, .null), (.iadd, 0, 0, 0, .null), (.iaload, 0, 0, 0, .null), (.iadd, 0, 0, 0, .null), (.iadd, 0, 0, 0, .null), (.istore 4, 4, 0, 0, .null), (.iinc 3 1, 3, 0, 0, .int 1), (.goto (-53), 12, 0, 0, .null)]
theorem kX11_findMend_35 : kx_oks kxL_X11 false cX11_findMend 35 bX11_findMend_35 = true := by decide +kernel
def bX11_findMend_68 : List kx_O := [(.iload_n 3, 3, 0, 0, .null), (.iload_n 2, 2, 0, 0, .null), (.if_icmp .ne 5, 75, 0, 0, .null)]
theorem kX11_findMend_68 : kx_oks kxL_X11 false cX11_findMend 68 bX11_findMend_68 = true := by decide +kernel
def bX11_findMend_73 : List kx_O := [(.iconst 0, 0, 0, 0, .int 0), (.ireturn, 0, 0, 0, .null)]
theorem kX11_findMend_73 : kx_oks kxL_X11 false cX11_findMend 73 bX11_findMend_73 = true := by decide +kernel
def bX11_findMend_75 : List kx_O := [(.iload_n 2, 2, 0, 0, .null), (.iload_n 3, 3, 0, 0, .null), (.isub, 0, 0, 0, .null), (.iload_n 2, 2, 0, 0, .null), (.irem, 0, 0, 0, .null), (.istore 5, 5, 0, 0, .null), (.iconst 1, 0, 0, 0, .int 1), (.istore 6, 6, 0, 0, .null)]
theorem kX11_findMend_75 : kx_oks kxL_X11 false cX11_findMend 75 bX11_findMend_75 = true := by decide +kernel
def bX11_findMend_85 : List kx_O := [(.iload 6, 6, 0, 0, .null), (.iload 5, 5, 0, 0, .null), (.if_icmp .ge 36, 125, 0, 0, .null)]
theorem kX11_findMend_85 : kx_oks kxL_X11 false cX11_findMend 85 bX11_findMend_85 = true := by decide +kernel
def bX11_findMend_92 : List kx_O := [(.aload_n 0, 0, 0, 0, .null), (.iload_n 1, 1, 0, 0, .null), (.aload_n 0, 0, 0, 0, .null), (.getfield 65, 11, 33, 0, .null), (.iload_n 1, 1, 0, 0, .null), (.iaload, 0, 0, 0, .null), (.iload 6, 6, 0, 0, .null), (.iload_n 2, 2, 0, 0, .null), (.irem, 0, 0, 0, .null), (.isub, 0, 0, 0, .null), (.iload_n 2, 2, 0, 0, .null), (.iadd, 0, 0, 0, .null), (.iload_n 2, 2, 0, 0, .null), (.irem, 0, 0, 0, .null)]
theorem kX11_findMend_92 : kx_oks kxL_X11 false cX11_findMend 92 bX11_findMend_92 = true := by decide +kernel
def bX11_findMend_112 : List kx_O := [(.ifCond .eq 7, 119, 0, 0, .null)]
theorem kX11_findMend_112 : kx_oks kxL_X11 false cX11_findMend 112 bX11_findMend_112 = true := by decide +kernel
def bX11_findMend_115 : List kx_O := [(.iload 6, 6, 0, 0, .null), (.istore 5, 5, 0, 0, .null)]
theorem kX11_findMend_115 : kx_oks kxL_X11 false cX11_findMend 115 bX11_findMend_115 = true := by decide +kernel
def bX11_findMend_119 : List kx_O := [(.iinc 6 1, 6, 0, 0, .int 1), (.goto (-37), 85, 0, 0, .null)]
theorem kX11_findMend_119 : kx_oks kxL_X11 false cX11_findMend 119 bX11_findMend_119 = true := by decide +kernel
def bX11_findMend_125 : List kx_O := [(.aload_n 0, 0, 0, 0, .null), (.iload 4, 4, 0, 0, .null), (.putfield 455, 11, 53, 0, .null), (.aload_n 0, 0, 0, 0, .null), (.iload_n 3, 3, 0, 0, .null), (.putfield 458, 11, 54, 0, .null), (.aload_n 0, 0, 0, 0, .null), (.iconst 0, 0, 0, 0, .int 0), (.putfield 461, 11, 55, 0, .null), (.iload 4, 4, 0, 0, .null), (.iload_n 3, 3, 0, 0, .null), (.isub, 0, 0, 0, .null), (.aload_n 0, 0, 0, 0, .null), (.getfield 62, 11, 32, 0, .null), (.iload_n 1, 1, 0, 0, .null), (.iaload, 0, 0, 0, .null), (.if_icmp .gt 7, 158, 0, 0, .null)]
theorem kX11_findMend_125 : kx_oks kxL_X11 false cX11_findMend 125 bX11_findMend_125 = true := by decide +kernel
def bX11_findMend_154 : List kx_O := [(.iconst 1, 0, 0, 0, .int 1), (.goto 4, 159, 0, 0, .null)]
theorem kX11_findMend_154 : kx_oks kxL_X11 false cX11_findMend 154 bX11_findMend_154 = true := by decide +kernel
def bX11_findMend_158 : List kx_O := [(.iconst 0, 0, 0, 0, .int 0)]
theorem kX11_findMend_158 : kx_oks kxL_X11 false cX11_findMend 158 bX11_findMend_158 = true := by decide +kernel
def bX11_findMend_159 : List kx_O := [(.istore 6, 6, 0, 0, .null), (.iload 6, 6, 0, 0, .null), (.ifCond .eq 15, 178, 0, 0, .null)]
theorem kX11_findMend_159 : kx_oks kxL_X11 false cX11_findMend 159 bX11_findMend_159 = true := by decide +kernel
def bX11_findMend_166 : List kx_O := [(.iload 4, 4, 0, 0, .null), (.bipush 10, 0, 0, 0, .int 10), (.iload 5, 5, 0, 0, .null), (.imul, 0, 0, 0, .null), (.if_icmp .gt 5, 178, 0, 0, .null)]
theorem kX11_findMend_166 : kx_oks kxL_X11 false cX11_findMend 166 bX11_findMend_166 = true := by decide +kernel
def bX11_findMend_176 : List kx_O := [(.iconst 1, 0, 0, 0, .int 1), (.ireturn, 0, 0, 0, .null)]
theorem kX11_findMend_176 : kx_oks kxL_X11 false cX11_findMend 176 bX11_findMend_176 = true := by decide +kernel
def bX11_findMend_178 : List kx_O := [(.aload_n 0, 0, 0, 0, .null), (.bipush 10, 0, 0, 0, .int 10), (.iload 5, 5, 0, 0, .null), (.imul, 0, 0, 0, .null), (.putfield 455, 11, 53, 0, .null), (.aload_n 0, 0, 0, 0, .null), (.iload 5, 5, 0, 0, .null), (.putfield 458, 11, 54, 0, .null), (.aload_n 0, 0, 0, 0, .null), (.iconst 1, 0, 0, 0, .int 1), (.putfield 461, 11, 55, 0, .null), (.iconst 1, 0, 0, 0, .int 1), (.ireturn, 0, 0, 0, .null)]
theorem kX11_findMend_178 : kx_oks kxL_X11 false cX11_findMend 178 bX11_findMend_178 = true := by decide +kernel
theorem dX11_findMend_29 : decode cX11_findMend 29 = .ok (.invokevirtual 445, 3) := by decide +kernel
theorem dX11_findMend_109 : decode cX11_findMend 109 = .ok (.invokevirtual 445, 3) := by decide +kernel
set_option maxRecDepth 100000 in
set_option maxHeartbeats 4000000 in
theorem ct_X11_findMend_n (l : Launch) (G : kx_G) {M : Nat → Int32} {A : Nat → Nat → Int32} {L : Nat → Nat → Int64} {R : kx_P} {sz : Nat} {c : Nat} (hc : c < 8) {p wm a : Nat} (h110 : A 110 c = nI p) (h103 : A 103 c = nI wm) (hp : p < wm) (hwm : wm ≤ 24) (ha : L 116 c = lN a) (haW : a < 86400000000) (hT : ck_mt A c wm (a / 3600000000 + 1) p wm 0 = wm)  : kx_M l G sX11_findMend 3 0 0 [.ref 93, .int (nI c)] (mW M A L R) sz (some (.int (0))) (mW M A L R) sz := by
  have hw0 : 1 ≤ wm ∧ wm ≤ 24 := ⟨by omega, hwm⟩
  have zw : ¬ nI wm = 0 := nI_ne0 (by omega) (by omega)
  generalize hTT : ck_mt A c wm (a / 3600000000 + 1) p wm 0 = TT at hT
  have zTT : TT ≤ wm := by have := (ck_mt_le A c wm (a / 3600000000 + 1) p wm 0).2; omega
  replace hTT := hTT.symm
  refine kx_mk kx_tab kxLok_X11 (ini := false) [some (.ref 93), some (.int (nI c)), none, none, none, none, none] ⟨by decide, rfl, by decide, by decide⟩ (by first | exact Or.inl rfl | exact Or.inr rfl) rfl rfl (fun g hB hC => ?_)
  have j68 : ∀ x5 x6, g 68 [some (.ref 93), some (.int (nI c)), some (.int (nI wm)), some (.int (nI TT)), some (.int (ck_mc A c wm p TT)), x5, x6] [] (mW M A L R) sz 0 0 := by
    intro x5 x6
    have zc70q := congrArg nI hT
    refine hB bX11_findMend_68 _ _ _ _ _ _ _ kX11_findMend_68 ?_
    dsimp only [bX11_findMend_68, kx_wp, kx_step, kx_lI, kx_lL, kx_lA, kx_gl, kx_pI, kx_pL, kx_pR, kx_pA, kx_pV, kx_s1, kx_s2, kx_sl, kx_pre, kx_c2, kx_pl, kx_cmp, kx_oF, kx_eqN, kx_nil, kx_c1, kx_ft, kx_aI, kx_aL, kx_aR, kx_ln, Nat.reduceAdd, Option.toList, List.cons_append, List.nil_append, mW_o, mf_26, m_103, mf_33, m_110, mf_27, m_104, mf_53, mf_54, mf_55, mf_32, m_109]
    repeat (simp only [ms_103, ms_110, ms_104, mu_53, mW_so, mu_54, mu_55, ms_109, nI_clamp (show c < 2 ^ 31 by omega), h103, h110, nI_add, nI_1, ck_i24]; try dsimp only [kx_wp, kx_step, kx_lI, kx_lL, kx_lA, kx_gl, kx_pI, kx_pL, kx_pR, kx_pA, kx_pV, kx_s1, kx_s2, kx_sl, kx_pre, kx_c2, kx_pl, kx_cmp, kx_oF, kx_eqN, kx_nil, kx_c1, kx_ft, kx_aI, kx_aL, kx_aR, kx_ln, Nat.reduceAdd, Option.toList, List.cons_append, List.nil_append, mW_o, mf_26, m_103, mf_33, m_110, mf_27, m_104, mf_53, mf_54, mf_55, mf_32, m_109])
    repeat' apply And.intro
    all_goals try (first | with_reducible assumption | (with_reducible refine ck_nzI ?_; simp; done) | (with_reducible refine ck_nzL ?_; simp; done) | (with_reducible refine vp_in_nI ?_ ?_ <;> first | omega | decide) | (with_reducible refine Nat.le_of_ble_eq_true ?_; rfl) | omega)
    · intro zc70
      first | exact absurd rfl zc70 | exact absurd zc70 (by decide) | exact absurd (by decide) zc70 | (exfalso; exact zc70 zc70q) | (exfalso; simp_all; done)
    · intro zc70
      with_reducible first | have ze70 := Decidable.not_not.mp zc70 | have ze70 := zc70
      refine hB bX11_findMend_73 _ _ _ _ _ _ _ kX11_findMend_73 ?_
      dsimp only [bX11_findMend_73, kx_wp, kx_step, kx_lI, kx_lL, kx_lA, kx_gl, kx_pI, kx_pL, kx_pR, kx_pA, kx_pV, kx_s1, kx_s2, kx_sl, kx_pre, kx_c2, kx_pl, kx_cmp, kx_oF, kx_eqN, kx_nil, kx_c1, kx_ft, kx_aI, kx_aL, kx_aR, kx_ln, Nat.reduceAdd, Option.toList, List.cons_append, List.nil_append, mW_o, mf_26, m_103, mf_33, m_110, mf_27, m_104, mf_53, mf_54, mf_55, mf_32, m_109]
      repeat (simp only [ms_103, ms_110, ms_104, mu_53, mW_so, mu_54, mu_55, ms_109, nI_clamp (show c < 2 ^ 31 by omega), h103, h110, nI_add, nI_1, ck_i24]; try dsimp only [kx_wp, kx_step, kx_lI, kx_lL, kx_lA, kx_gl, kx_pI, kx_pL, kx_pR, kx_pA, kx_pV, kx_s1, kx_s2, kx_sl, kx_pre, kx_c2, kx_pl, kx_cmp, kx_oF, kx_eqN, kx_nil, kx_c1, kx_ft, kx_aI, kx_aL, kx_aR, kx_ln, Nat.reduceAdd, Option.toList, List.cons_append, List.nil_append, mW_o, mf_26, m_103, mf_33, m_110, mf_27, m_104, mf_53, mf_54, mf_55, mf_32, m_109])
      all_goals (repeat' apply And.intro)
      all_goals ((try clear hB hC); first | exact True.intro | with_reducible rfl | with_reducible assumption | (with_reducible refine vp_in_nI ?_ ?_ <;> first | omega | decide) | exact Nat.le_of_ble_eq_true rfl | (with_reducible refine ck_nzI ?_; simp; done) | (with_reducible refine ck_nzL ?_; simp; done) | (simp only [pk_us, pk_uLs, eq_true ze70, ↓reduceIte, not_true_eq_false, not_false_eq_true]; done) | (simp only [eq_true ze70, ↓reduceIte, not_true_eq_false, not_false_eq_true]; with_reducible rfl) | skip)
  have loop12 : ∀ (n9 t : Nat) (x5 x6 : Option Value), t + n9 = wm → TT = ck_mt A c wm (a / 3600000000 + 1) p n9 t → g 12 [some (.ref 93), some (.int (nI c)), some (.int (nI wm)), some (.int (nI t)), some (.int (ck_mc A c wm p t)), x5, x6] [] (mW M A L R) sz 0 0 := by
    intro n9
    induction n9 with
    | zero =>
      intro t x5 x6 ht hE
      rw [ck_mt] at hE
      obtain rfl : wm = t := by omega
      rw [hE] at j68
      refine hB bX11_findMend_12 _ _ _ _ _ _ _ kX11_findMend_12 ?_
      dsimp only [bX11_findMend_12, kx_wp, kx_step, kx_lI, kx_lL, kx_lA, kx_gl, kx_pI, kx_pL, kx_pR, kx_pA, kx_pV, kx_s1, kx_s2, kx_sl, kx_pre, kx_c2, kx_pl, kx_cmp, kx_oF, kx_eqN, kx_nil, kx_c1, kx_ft, kx_aI, kx_aL, kx_aR, kx_ln, Nat.reduceAdd, Option.toList, List.cons_append, List.nil_append, mW_o, mf_26, m_103, mf_33, m_110, mf_27, m_104, mf_53, mf_54, mf_55, mf_32, m_109]
      repeat (simp only [ms_103, ms_110, ms_104, mu_53, mW_so, mu_54, mu_55, ms_109, nI_clamp (show c < 2 ^ 31 by omega), h103, h110, nI_add, nI_1, ck_i24]; try dsimp only [kx_wp, kx_step, kx_lI, kx_lL, kx_lA, kx_gl, kx_pI, kx_pL, kx_pR, kx_pA, kx_pV, kx_s1, kx_s2, kx_sl, kx_pre, kx_c2, kx_pl, kx_cmp, kx_oF, kx_eqN, kx_nil, kx_c1, kx_ft, kx_aI, kx_aL, kx_aR, kx_ln, Nat.reduceAdd, Option.toList, List.cons_append, List.nil_append, mW_o, mf_26, m_103, mf_33, m_110, mf_27, m_104, mf_53, mf_54, mf_55, mf_32, m_109])
      repeat' apply And.intro
      all_goals try (first | with_reducible assumption | (with_reducible refine ck_nzI ?_; simp; done) | (with_reducible refine ck_nzL ?_; simp; done) | (with_reducible refine vp_in_nI ?_ ?_ <;> first | omega | decide) | (with_reducible refine Nat.le_of_ble_eq_true ?_; rfl) | omega)
      · intro zc14
        with_reducible first | have ze14 := Int32.not_lt.mpr zc14 | have ze14 := zc14
        exact j68 _ _
      · intro zc14
        first | exact absurd rfl zc14 | exact absurd zc14 (by decide) | exact absurd (by decide) zc14 | (exfalso; first | exact absurd zc14 (by first | (simp only [nI_leI (show wm < 2 ^ 31 by omega) (show wm < 2 ^ 31 by omega)]; omega) | (simp only [nI_leI (show wm < 2 ^ 31 by omega) (show wm < 2 ^ 31 by omega), Decidable.not_not]; omega))) | (exfalso; simp_all; done)
    | succ n9 ih =>
      intro t x5 x6 ht hE
      rw [ck_mt] at hE
      have zr1 : nI (p + t) - nI (p + t) / nI wm * nI wm = nI ((p + t) % wm) := pk_rem (by omega) (by omega) (by omega)
      have zm := Nat.mod_lt (p + t) (show 0 < wm by omega)
      have zz : ck_mc A c wm p t + (1 + A 104 (24 * c + (p + t) % wm)) = ck_mc A c wm p (t + 1) := rfl
      refine hB bX11_findMend_12 _ _ _ _ _ _ _ kX11_findMend_12 ?_
      dsimp only [bX11_findMend_12, kx_wp, kx_step, kx_lI, kx_lL, kx_lA, kx_gl, kx_pI, kx_pL, kx_pR, kx_pA, kx_pV, kx_s1, kx_s2, kx_sl, kx_pre, kx_c2, kx_pl, kx_cmp, kx_oF, kx_eqN, kx_nil, kx_c1, kx_ft, kx_aI, kx_aL, kx_aR, kx_ln, Nat.reduceAdd, Option.toList, List.cons_append, List.nil_append, mW_o, mf_26, m_103, mf_33, m_110, mf_27, m_104, mf_53, mf_54, mf_55, mf_32, m_109]
      repeat (simp only [ms_103, ms_110, ms_104, mu_53, mW_so, mu_54, mu_55, ms_109, nI_clamp (show c < 2 ^ 31 by omega), h103, h110, nI_add, nI_1, ck_i24, zr1, nI_clamp (show 24 * c + (p + t) % wm < 2 ^ 31 by omega), zz]; try dsimp only [kx_wp, kx_step, kx_lI, kx_lL, kx_lA, kx_gl, kx_pI, kx_pL, kx_pR, kx_pA, kx_pV, kx_s1, kx_s2, kx_sl, kx_pre, kx_c2, kx_pl, kx_cmp, kx_oF, kx_eqN, kx_nil, kx_c1, kx_ft, kx_aI, kx_aL, kx_aR, kx_ln, Nat.reduceAdd, Option.toList, List.cons_append, List.nil_append, mW_o, mf_26, m_103, mf_33, m_110, mf_27, m_104, mf_53, mf_54, mf_55, mf_32, m_109])
      repeat' apply And.intro
      all_goals try (first | with_reducible assumption | (with_reducible refine ck_nzI ?_; simp; done) | (with_reducible refine ck_nzL ?_; simp; done) | (with_reducible refine vp_in_nI ?_ ?_ <;> first | omega | decide) | (with_reducible refine Nat.le_of_ble_eq_true ?_; rfl) | omega)
      · intro zc14
        first | exact absurd rfl zc14 | exact absurd zc14 (by decide) | exact absurd (by decide) zc14 | (exfalso; first | exact absurd zc14 (by first | (simp only [nI_leI (show wm < 2 ^ 31 by omega) (show t < 2 ^ 31 by omega)]; omega) | (simp only [nI_leI (show wm < 2 ^ 31 by omega) (show t < 2 ^ 31 by omega), Decidable.not_not]; omega))) | (exfalso; simp_all; done)
      · intro zc14
        with_reducible first | have ze14 := Int32.not_le.mp zc14 | have ze14 := zc14
        refine hB bX11_findMend_17 _ _ _ _ _ _ _ kX11_findMend_17 ?_
        dsimp only [bX11_findMend_17, kx_wp, kx_step, kx_lI, kx_lL, kx_lA, kx_gl, kx_pI, kx_pL, kx_pR, kx_pA, kx_pV, kx_s1, kx_s2, kx_sl, kx_pre, kx_c2, kx_pl, kx_cmp, kx_oF, kx_eqN, kx_nil, kx_c1, kx_ft, kx_aI, kx_aL, kx_aR, kx_ln, Nat.reduceAdd, Option.toList, List.cons_append, List.nil_append, mW_o, mf_26, m_103, mf_33, m_110, mf_27, m_104, mf_53, mf_54, mf_55, mf_32, m_109]
        repeat (simp only [ms_103, ms_110, ms_104, mu_53, mW_so, mu_54, mu_55, ms_109, nI_clamp (show c < 2 ^ 31 by omega), h103, h110, nI_add, nI_1, ck_i24, zr1, nI_clamp (show 24 * c + (p + t) % wm < 2 ^ 31 by omega), zz]; try dsimp only [kx_wp, kx_step, kx_lI, kx_lL, kx_lA, kx_gl, kx_pI, kx_pL, kx_pR, kx_pA, kx_pV, kx_s1, kx_s2, kx_sl, kx_pre, kx_c2, kx_pl, kx_cmp, kx_oF, kx_eqN, kx_nil, kx_c1, kx_ft, kx_aI, kx_aL, kx_aR, kx_ln, Nat.reduceAdd, Option.toList, List.cons_append, List.nil_append, mW_o, mf_26, m_103, mf_33, m_110, mf_27, m_104, mf_53, mf_54, mf_55, mf_32, m_109])
        repeat' apply And.intro
        all_goals try (first | with_reducible assumption | (with_reducible refine ck_nzI ?_; simp; done) | (with_reducible refine ck_nzL ?_; simp; done) | (with_reducible refine vp_in_nI ?_ ?_ <;> first | omega | decide) | (with_reducible refine Nat.le_of_ble_eq_true ?_; rfl) | omega)
        refine hC.1 445 _ _ _ _ _ _ _ 11 _ _ _ _ _ _ _ _ _ _ _ _ lX11_445 (ct_X11_isInStep l G (fr := (p + t) % wm) hc h103 hw0 (by omega) ha haW) ⟨by decide, rfl⟩ (mW_o) rfl rfl (Nat.le_of_ble_eq_true rfl) (by decide) (by decide) (by omega) (by omega) dX11_findMend_29 ?_
        refine hB bX11_findMend_32 _ _ _ _ _ _ _ kX11_findMend_32 ?_
        dsimp only [bX11_findMend_32, kx_wp, kx_step, kx_lI, kx_lL, kx_lA, kx_gl, kx_pI, kx_pL, kx_pR, kx_pA, kx_pV, kx_s1, kx_s2, kx_sl, kx_pre, kx_c2, kx_pl, kx_cmp, kx_oF, kx_eqN, kx_nil, kx_c1, kx_ft, kx_aI, kx_aL, kx_aR, kx_ln, Nat.reduceAdd, Option.toList, List.cons_append, List.nil_append, mW_o, mf_26, m_103, mf_33, m_110, mf_27, m_104, mf_53, mf_54, mf_55, mf_32, m_109]
        repeat (simp only [ms_103, ms_110, ms_104, mu_53, mW_so, mu_54, mu_55, ms_109, nI_clamp (show c < 2 ^ 31 by omega), h103, h110, nI_add, nI_1, ck_i24, zr1, nI_clamp (show 24 * c + (p + t) % wm < 2 ^ 31 by omega), zz]; try dsimp only [kx_wp, kx_step, kx_lI, kx_lL, kx_lA, kx_gl, kx_pI, kx_pL, kx_pR, kx_pA, kx_pV, kx_s1, kx_s2, kx_sl, kx_pre, kx_c2, kx_pl, kx_cmp, kx_oF, kx_eqN, kx_nil, kx_c1, kx_ft, kx_aI, kx_aL, kx_aR, kx_ln, Nat.reduceAdd, Option.toList, List.cons_append, List.nil_append, mW_o, mf_26, m_103, mf_33, m_110, mf_27, m_104, mf_53, mf_54, mf_55, mf_32, m_109])
        repeat' apply And.intro
        all_goals try (first | with_reducible assumption | (with_reducible refine ck_nzI ?_; simp; done) | (with_reducible refine ck_nzL ?_; simp; done) | (with_reducible refine vp_in_nI ?_ ?_ <;> first | omega | decide) | (with_reducible refine Nat.le_of_ble_eq_true ?_; rfl) | omega)
        · intro zc32
          have ze32 := zc32
          rw [if_neg ze32] at hE
          subst hE
          exact j68 _ _
        · intro zc32
          with_reducible first | have ze32 := Decidable.not_not.mp zc32 | have ze32 := zc32
          refine hB bX11_findMend_35 _ _ _ _ _ _ _ kX11_findMend_35 ?_
          dsimp only [bX11_findMend_35, kx_wp, kx_step, kx_lI, kx_lL, kx_lA, kx_gl, kx_pI, kx_pL, kx_pR, kx_pA, kx_pV, kx_s1, kx_s2, kx_sl, kx_pre, kx_c2, kx_pl, kx_cmp, kx_oF, kx_eqN, kx_nil, kx_c1, kx_ft, kx_aI, kx_aL, kx_aR, kx_ln, Nat.reduceAdd, Option.toList, List.cons_append, List.nil_append, mW_o, mf_26, m_103, mf_33, m_110, mf_27, m_104, mf_53, mf_54, mf_55, mf_32, m_109]
          repeat (simp only [ms_103, ms_110, ms_104, mu_53, mW_so, mu_54, mu_55, ms_109, nI_clamp (show c < 2 ^ 31 by omega), h103, h110, nI_add, nI_1, ck_i24, zr1, nI_clamp (show 24 * c + (p + t) % wm < 2 ^ 31 by omega), zz]; try dsimp only [kx_wp, kx_step, kx_lI, kx_lL, kx_lA, kx_gl, kx_pI, kx_pL, kx_pR, kx_pA, kx_pV, kx_s1, kx_s2, kx_sl, kx_pre, kx_c2, kx_pl, kx_cmp, kx_oF, kx_eqN, kx_nil, kx_c1, kx_ft, kx_aI, kx_aL, kx_aR, kx_ln, Nat.reduceAdd, Option.toList, List.cons_append, List.nil_append, mW_o, mf_26, m_103, mf_33, m_110, mf_27, m_104, mf_53, mf_54, mf_55, mf_32, m_109])
          repeat' apply And.intro
          all_goals try (first | with_reducible assumption | (with_reducible refine ck_nzI ?_; simp; done) | (with_reducible refine ck_nzL ?_; simp; done) | (with_reducible refine vp_in_nI ?_ ?_ <;> first | omega | decide) | (with_reducible refine Nat.le_of_ble_eq_true ?_; rfl) | omega)
          rw [if_pos ze32] at hE
          exact ih (t + 1) _ _ (by omega) hE
  refine hB bX11_findMend_0 _ _ _ _ _ _ _ kX11_findMend_0 ?_
  dsimp only [bX11_findMend_0, kx_wp, kx_step, kx_lI, kx_lL, kx_lA, kx_gl, kx_pI, kx_pL, kx_pR, kx_pA, kx_pV, kx_s1, kx_s2, kx_sl, kx_pre, kx_c2, kx_pl, kx_cmp, kx_oF, kx_eqN, kx_nil, kx_c1, kx_ft, kx_aI, kx_aL, kx_aR, kx_ln, Nat.reduceAdd, Option.toList, List.cons_append, List.nil_append, mW_o, mf_26, m_103, mf_33, m_110, mf_27, m_104, mf_53, mf_54, mf_55, mf_32, m_109]
  repeat (simp only [ms_103, ms_110, ms_104, mu_53, mW_so, mu_54, mu_55, ms_109, nI_clamp (show c < 2 ^ 31 by omega), h103, h110, nI_add, nI_1, ck_i24]; try dsimp only [kx_wp, kx_step, kx_lI, kx_lL, kx_lA, kx_gl, kx_pI, kx_pL, kx_pR, kx_pA, kx_pV, kx_s1, kx_s2, kx_sl, kx_pre, kx_c2, kx_pl, kx_cmp, kx_oF, kx_eqN, kx_nil, kx_c1, kx_ft, kx_aI, kx_aL, kx_aR, kx_ln, Nat.reduceAdd, Option.toList, List.cons_append, List.nil_append, mW_o, mf_26, m_103, mf_33, m_110, mf_27, m_104, mf_53, mf_54, mf_55, mf_32, m_109])
  repeat' apply And.intro
  all_goals try (first | with_reducible assumption | (with_reducible refine ck_nzI ?_; simp; done) | (with_reducible refine ck_nzL ?_; simp; done) | (with_reducible refine vp_in_nI ?_ ?_ <;> first | omega | decide) | (with_reducible refine Nat.le_of_ble_eq_true ?_; rfl) | omega)
  exact loop12 wm 0 _ _ (by omega) hTT

set_option maxRecDepth 100000 in
set_option maxHeartbeats 4000000 in
theorem ct_X11_findMend_t (l : Launch) (G : kx_G) {M : Nat → Int32} {A : Nat → Nat → Int32} {L : Nat → Nat → Int64} {R : kx_P} {sz : Nat} {c : Nat} (hc : c < 8) {p wm a : Nat} (h110 : A 110 c = nI p) (h103 : A 103 c = nI wm) (hp : p < wm) (hwm : wm ≤ 24) (ha : L 116 c = lN a) (haW : a < 86400000000) {T0 : Nat} (hT : ck_mt A c wm (a / 3600000000 + 1) p wm 0 = T0) (hT1 : T0 < wm)  : kx_M l G sX11_findMend 3 0 0 [.ref 93, .int (nI c)] (mW M A L R) sz (some (.int (1))) (mW (ck_fmM M (A 109 c) (ck_mc A c wm p T0) T0 (ck_ml A c wm (a / 3600000000 + 1) p ((wm - T0) % wm) ((wm - T0) % wm - 1) 1)) A L R) sz := by
  have hw0 : 1 ≤ wm ∧ wm ≤ 24 := ⟨by omega, hwm⟩
  have zw : ¬ nI wm = 0 := nI_ne0 (by omega) (by omega)
  generalize hTT : ck_mt A c wm (a / 3600000000 + 1) p wm 0 = TT at hT
  have zTT : TT ≤ wm := by have := (ck_mt_le A c wm (a / 3600000000 + 1) p wm 0).2; omega
  replace hTT := hTT.symm
  subst hT
  have zlf : (wm - TT) % wm < wm := Nat.mod_lt _ (by omega)
  generalize hlf : (wm - TT) % wm = lf at zlf
  have zLL := ck_ml_le A c wm (a / 3600000000 + 1) p lf (lf - 1) 1 (by omega)
  generalize hLL : ck_ml A c wm (a / 3600000000 + 1) p lf (lf - 1) 1 = LL at zLL
  replace hLL := hLL.symm
  have zs1 : nI wm - nI TT = nI (wm - TT) := pk_sub (by omega)
  have zs2 : nI (wm - TT) - nI (wm - TT) / nI wm * nI wm = nI lf := by rw [← hlf]; exact pk_rem (by omega) (by omega) (by omega)
  have z10 : (10 : Int32) * nI LL = nI (10 * LL) := pk_mul 10 LL
  refine kx_mk kx_tab kxLok_X11 (ini := false) [some (.ref 93), some (.int (nI c)), none, none, none, none, none] ⟨by decide, rfl, by decide, by decide⟩ (by first | exact Or.inl rfl | exact Or.inr rfl) rfl rfl (fun g hB hC => ?_)
  have j159t : ∀ x6, ck_mc A c wm p TT - nI TT ≤ A 109 c → g 159 [some (.ref 93), some (.int (nI c)), some (.int (nI wm)), some (.int (nI TT)), some (.int (ck_mc A c wm p TT)), some (.int (nI LL)), x6] [.int 1] (mW (upd (upd (upd M 53 (ck_mc A c wm p TT)) 54 (nI TT)) 55 0) A L R) sz 0 0 := by
    intro x6 zy
    refine hB bX11_findMend_159 _ _ _ _ _ _ _ kX11_findMend_159 ?_
    dsimp only [bX11_findMend_159, kx_wp, kx_step, kx_lI, kx_lL, kx_lA, kx_gl, kx_pI, kx_pL, kx_pR, kx_pA, kx_pV, kx_s1, kx_s2, kx_sl, kx_pre, kx_c2, kx_pl, kx_cmp, kx_oF, kx_eqN, kx_nil, kx_c1, kx_ft, kx_aI, kx_aL, kx_aR, kx_ln, Nat.reduceAdd, Option.toList, List.cons_append, List.nil_append, mW_o, mf_26, m_103, mf_33, m_110, mf_27, m_104, mf_53, mf_54, mf_55, mf_32, m_109]
    repeat (simp only [ms_103, ms_110, ms_104, mu_53, mW_so, mu_54, mu_55, ms_109, nI_clamp (show c < 2 ^ 31 by omega), h103, h110, nI_add, nI_1, ck_i24, z10]; try dsimp only [kx_wp, kx_step, kx_lI, kx_lL, kx_lA, kx_gl, kx_pI, kx_pL, kx_pR, kx_pA, kx_pV, kx_s1, kx_s2, kx_sl, kx_pre, kx_c2, kx_pl, kx_cmp, kx_oF, kx_eqN, kx_nil, kx_c1, kx_ft, kx_aI, kx_aL, kx_aR, kx_ln, Nat.reduceAdd, Option.toList, List.cons_append, List.nil_append, mW_o, mf_26, m_103, mf_33, m_110, mf_27, m_104, mf_53, mf_54, mf_55, mf_32, m_109])
    repeat' apply And.intro
    all_goals try (first | with_reducible assumption | (with_reducible refine ck_nzI ?_; simp; done) | (with_reducible refine ck_nzL ?_; simp; done) | (with_reducible refine vp_in_nI ?_ ?_ <;> first | omega | decide) | (with_reducible refine Nat.le_of_ble_eq_true ?_; rfl) | omega)
    · intro zc163
      first | exact absurd rfl zc163 | exact absurd zc163 (by decide) | exact absurd (by decide) zc163 | (exfalso; exact absurd zc163 (by decide)) | (exfalso; simp_all; done)
    · intro zc163
      have ze163 := zc163
      refine hB bX11_findMend_166 _ _ _ _ _ _ _ kX11_findMend_166 ?_
      dsimp only [bX11_findMend_166, kx_wp, kx_step, kx_lI, kx_lL, kx_lA, kx_gl, kx_pI, kx_pL, kx_pR, kx_pA, kx_pV, kx_s1, kx_s2, kx_sl, kx_pre, kx_c2, kx_pl, kx_cmp, kx_oF, kx_eqN, kx_nil, kx_c1, kx_ft, kx_aI, kx_aL, kx_aR, kx_ln, Nat.reduceAdd, Option.toList, List.cons_append, List.nil_append, mW_o, mf_26, m_103, mf_33, m_110, mf_27, m_104, mf_53, mf_54, mf_55, mf_32, m_109]
      repeat (simp only [ms_103, ms_110, ms_104, mu_53, mW_so, mu_54, mu_55, ms_109, nI_clamp (show c < 2 ^ 31 by omega), h103, h110, nI_add, nI_1, ck_i24, z10]; try dsimp only [kx_wp, kx_step, kx_lI, kx_lL, kx_lA, kx_gl, kx_pI, kx_pL, kx_pR, kx_pA, kx_pV, kx_s1, kx_s2, kx_sl, kx_pre, kx_c2, kx_pl, kx_cmp, kx_oF, kx_eqN, kx_nil, kx_c1, kx_ft, kx_aI, kx_aL, kx_aR, kx_ln, Nat.reduceAdd, Option.toList, List.cons_append, List.nil_append, mW_o, mf_26, m_103, mf_33, m_110, mf_27, m_104, mf_53, mf_54, mf_55, mf_32, m_109])
      repeat' apply And.intro
      all_goals try (first | with_reducible assumption | (with_reducible refine ck_nzI ?_; simp; done) | (with_reducible refine ck_nzL ?_; simp; done) | (with_reducible refine vp_in_nI ?_ ?_ <;> first | omega | decide) | (with_reducible refine Nat.le_of_ble_eq_true ?_; rfl) | omega)
      · intro zc173
        with_reducible first | have ze173 := Int32.not_le.mpr zc173 | have ze173 := zc173
        refine hB bX11_findMend_178 _ _ _ _ _ _ _ kX11_findMend_178 ?_
        dsimp only [bX11_findMend_178, kx_wp, kx_step, kx_lI, kx_lL, kx_lA, kx_gl, kx_pI, kx_pL, kx_pR, kx_pA, kx_pV, kx_s1, kx_s2, kx_sl, kx_pre, kx_c2, kx_pl, kx_cmp, kx_oF, kx_eqN, kx_nil, kx_c1, kx_ft, kx_aI, kx_aL, kx_aR, kx_ln, Nat.reduceAdd, Option.toList, List.cons_append, List.nil_append, mW_o, mf_26, m_103, mf_33, m_110, mf_27, m_104, mf_53, mf_54, mf_55, mf_32, m_109]
        repeat (simp only [ms_103, ms_110, ms_104, mu_53, mW_so, mu_54, mu_55, ms_109, nI_clamp (show c < 2 ^ 31 by omega), h103, h110, nI_add, nI_1, ck_i24, z10]; try dsimp only [kx_wp, kx_step, kx_lI, kx_lL, kx_lA, kx_gl, kx_pI, kx_pL, kx_pR, kx_pA, kx_pV, kx_s1, kx_s2, kx_sl, kx_pre, kx_c2, kx_pl, kx_cmp, kx_oF, kx_eqN, kx_nil, kx_c1, kx_ft, kx_aI, kx_aL, kx_aR, kx_ln, Nat.reduceAdd, Option.toList, List.cons_append, List.nil_append, mW_o, mf_26, m_103, mf_33, m_110, mf_27, m_104, mf_53, mf_54, mf_55, mf_32, m_109])
        all_goals (repeat' apply And.intro)
        all_goals ((try clear hB hC); first | exact True.intro | with_reducible rfl | with_reducible assumption | (with_reducible refine vp_in_nI ?_ ?_ <;> first | omega | decide) | exact Nat.le_of_ble_eq_true rfl | (with_reducible refine ck_nzI ?_; simp; done) | (with_reducible refine ck_nzL ?_; simp; done) | (simp only [pk_us, pk_uLs, ck_fmM, ze163, zc173, ze173, ↓reduceIte, not_true_eq_false, not_false_eq_true, zy]; done) | (simp only [ck_fmM, ze163, zc173, ze173, ↓reduceIte, not_true_eq_false, not_false_eq_true, zy]; with_reducible rfl) | skip)
      · intro zc173
        with_reducible first | have ze173 := Int32.not_lt.mp zc173 | have ze173 := zc173
        refine hB bX11_findMend_176 _ _ _ _ _ _ _ kX11_findMend_176 ?_
        dsimp only [bX11_findMend_176, kx_wp, kx_step, kx_lI, kx_lL, kx_lA, kx_gl, kx_pI, kx_pL, kx_pR, kx_pA, kx_pV, kx_s1, kx_s2, kx_sl, kx_pre, kx_c2, kx_pl, kx_cmp, kx_oF, kx_eqN, kx_nil, kx_c1, kx_ft, kx_aI, kx_aL, kx_aR, kx_ln, Nat.reduceAdd, Option.toList, List.cons_append, List.nil_append, mW_o, mf_26, m_103, mf_33, m_110, mf_27, m_104, mf_53, mf_54, mf_55, mf_32, m_109]
        repeat (simp only [ms_103, ms_110, ms_104, mu_53, mW_so, mu_54, mu_55, ms_109, nI_clamp (show c < 2 ^ 31 by omega), h103, h110, nI_add, nI_1, ck_i24, z10]; try dsimp only [kx_wp, kx_step, kx_lI, kx_lL, kx_lA, kx_gl, kx_pI, kx_pL, kx_pR, kx_pA, kx_pV, kx_s1, kx_s2, kx_sl, kx_pre, kx_c2, kx_pl, kx_cmp, kx_oF, kx_eqN, kx_nil, kx_c1, kx_ft, kx_aI, kx_aL, kx_aR, kx_ln, Nat.reduceAdd, Option.toList, List.cons_append, List.nil_append, mW_o, mf_26, m_103, mf_33, m_110, mf_27, m_104, mf_53, mf_54, mf_55, mf_32, m_109])
        all_goals (repeat' apply And.intro)
        all_goals ((try clear hB hC); first | exact True.intro | with_reducible rfl | with_reducible assumption | (with_reducible refine vp_in_nI ?_ ?_ <;> first | omega | decide) | exact Nat.le_of_ble_eq_true rfl | (with_reducible refine ck_nzI ?_; simp; done) | (with_reducible refine ck_nzL ?_; simp; done) | (simp only [pk_us, pk_uLs, ck_fmM, ze163, zc173, ze173, ↓reduceIte, not_true_eq_false, not_false_eq_true, zy]; done) | (simp only [ck_fmM, ze163, zc173, ze173, ↓reduceIte, not_true_eq_false, not_false_eq_true, zy]; with_reducible rfl) | skip)
  have j159f : ∀ x6, ¬ ck_mc A c wm p TT - nI TT ≤ A 109 c → g 159 [some (.ref 93), some (.int (nI c)), some (.int (nI wm)), some (.int (nI TT)), some (.int (ck_mc A c wm p TT)), some (.int (nI LL)), x6] [.int 0] (mW (upd (upd (upd M 53 (ck_mc A c wm p TT)) 54 (nI TT)) 55 0) A L R) sz 0 0 := by
    intro x6 zy
    refine hB bX11_findMend_159 _ _ _ _ _ _ _ kX11_findMend_159 ?_
    dsimp only [bX11_findMend_159, kx_wp, kx_step, kx_lI, kx_lL, kx_lA, kx_gl, kx_pI, kx_pL, kx_pR, kx_pA, kx_pV, kx_s1, kx_s2, kx_sl, kx_pre, kx_c2, kx_pl, kx_cmp, kx_oF, kx_eqN, kx_nil, kx_c1, kx_ft, kx_aI, kx_aL, kx_aR, kx_ln, Nat.reduceAdd, Option.toList, List.cons_append, List.nil_append, mW_o, mf_26, m_103, mf_33, m_110, mf_27, m_104, mf_53, mf_54, mf_55, mf_32, m_109]
    repeat (simp only [ms_103, ms_110, ms_104, mu_53, mW_so, mu_54, mu_55, ms_109, nI_clamp (show c < 2 ^ 31 by omega), h103, h110, nI_add, nI_1, ck_i24, z10]; try dsimp only [kx_wp, kx_step, kx_lI, kx_lL, kx_lA, kx_gl, kx_pI, kx_pL, kx_pR, kx_pA, kx_pV, kx_s1, kx_s2, kx_sl, kx_pre, kx_c2, kx_pl, kx_cmp, kx_oF, kx_eqN, kx_nil, kx_c1, kx_ft, kx_aI, kx_aL, kx_aR, kx_ln, Nat.reduceAdd, Option.toList, List.cons_append, List.nil_append, mW_o, mf_26, m_103, mf_33, m_110, mf_27, m_104, mf_53, mf_54, mf_55, mf_32, m_109])
    repeat' apply And.intro
    all_goals try (first | with_reducible assumption | (with_reducible refine ck_nzI ?_; simp; done) | (with_reducible refine ck_nzL ?_; simp; done) | (with_reducible refine vp_in_nI ?_ ?_ <;> first | omega | decide) | (with_reducible refine Nat.le_of_ble_eq_true ?_; rfl) | omega)
    · intro zc163
      have ze163 := zc163
      refine hB bX11_findMend_178 _ _ _ _ _ _ _ kX11_findMend_178 ?_
      dsimp only [bX11_findMend_178, kx_wp, kx_step, kx_lI, kx_lL, kx_lA, kx_gl, kx_pI, kx_pL, kx_pR, kx_pA, kx_pV, kx_s1, kx_s2, kx_sl, kx_pre, kx_c2, kx_pl, kx_cmp, kx_oF, kx_eqN, kx_nil, kx_c1, kx_ft, kx_aI, kx_aL, kx_aR, kx_ln, Nat.reduceAdd, Option.toList, List.cons_append, List.nil_append, mW_o, mf_26, m_103, mf_33, m_110, mf_27, m_104, mf_53, mf_54, mf_55, mf_32, m_109]
      repeat (simp only [ms_103, ms_110, ms_104, mu_53, mW_so, mu_54, mu_55, ms_109, nI_clamp (show c < 2 ^ 31 by omega), h103, h110, nI_add, nI_1, ck_i24, z10]; try dsimp only [kx_wp, kx_step, kx_lI, kx_lL, kx_lA, kx_gl, kx_pI, kx_pL, kx_pR, kx_pA, kx_pV, kx_s1, kx_s2, kx_sl, kx_pre, kx_c2, kx_pl, kx_cmp, kx_oF, kx_eqN, kx_nil, kx_c1, kx_ft, kx_aI, kx_aL, kx_aR, kx_ln, Nat.reduceAdd, Option.toList, List.cons_append, List.nil_append, mW_o, mf_26, m_103, mf_33, m_110, mf_27, m_104, mf_53, mf_54, mf_55, mf_32, m_109])
      all_goals (repeat' apply And.intro)
      all_goals ((try clear hB hC); first | exact True.intro | with_reducible rfl | with_reducible assumption | (with_reducible refine vp_in_nI ?_ ?_ <;> first | omega | decide) | exact Nat.le_of_ble_eq_true rfl | (with_reducible refine ck_nzI ?_; simp; done) | (with_reducible refine ck_nzL ?_; simp; done) | (simp only [pk_us, pk_uLs, ck_fmM, eq_true ze163, ↓reduceIte, not_true_eq_false, not_false_eq_true, zy]; done) | (simp only [ck_fmM, eq_true ze163, ↓reduceIte, not_true_eq_false, not_false_eq_true, zy]; with_reducible rfl) | skip)
    · intro zc163
      first | exact absurd rfl zc163 | exact absurd zc163 (by decide) | exact absurd (by decide) zc163 | (exfalso; exact absurd zc163 (by decide)) | (exfalso; simp_all; done)
  have j125 : ∀ x6, g 125 [some (.ref 93), some (.int (nI c)), some (.int (nI wm)), some (.int (nI TT)), some (.int (ck_mc A c wm p TT)), some (.int (nI LL)), x6] [] (mW M A L R) sz 0 0 := by
    intro x6
    refine hB bX11_findMend_125 _ _ _ _ _ _ _ kX11_findMend_125 ?_
    dsimp only [bX11_findMend_125, kx_wp, kx_step, kx_lI, kx_lL, kx_lA, kx_gl, kx_pI, kx_pL, kx_pR, kx_pA, kx_pV, kx_s1, kx_s2, kx_sl, kx_pre, kx_c2, kx_pl, kx_cmp, kx_oF, kx_eqN, kx_nil, kx_c1, kx_ft, kx_aI, kx_aL, kx_aR, kx_ln, Nat.reduceAdd, Option.toList, List.cons_append, List.nil_append, mW_o, mf_26, m_103, mf_33, m_110, mf_27, m_104, mf_53, mf_54, mf_55, mf_32, m_109]
    repeat (simp only [ms_103, ms_110, ms_104, mu_53, mW_so, mu_54, mu_55, ms_109, nI_clamp (show c < 2 ^ 31 by omega), h103, h110, nI_add, nI_1, ck_i24]; try dsimp only [kx_wp, kx_step, kx_lI, kx_lL, kx_lA, kx_gl, kx_pI, kx_pL, kx_pR, kx_pA, kx_pV, kx_s1, kx_s2, kx_sl, kx_pre, kx_c2, kx_pl, kx_cmp, kx_oF, kx_eqN, kx_nil, kx_c1, kx_ft, kx_aI, kx_aL, kx_aR, kx_ln, Nat.reduceAdd, Option.toList, List.cons_append, List.nil_append, mW_o, mf_26, m_103, mf_33, m_110, mf_27, m_104, mf_53, mf_54, mf_55, mf_32, m_109])
    repeat' apply And.intro
    all_goals try (first | with_reducible assumption | (with_reducible refine ck_nzI ?_; simp; done) | (with_reducible refine ck_nzL ?_; simp; done) | (with_reducible refine vp_in_nI ?_ ?_ <;> first | omega | decide) | (with_reducible refine Nat.le_of_ble_eq_true ?_; rfl) | omega)
    · intro zc151
      with_reducible first | have ze151 := Int32.not_le.mpr zc151 | have ze151 := zc151
      refine hB bX11_findMend_158 _ _ _ _ _ _ _ kX11_findMend_158 ?_
      dsimp only [bX11_findMend_158, kx_wp, kx_step, kx_lI, kx_lL, kx_lA, kx_gl, kx_pI, kx_pL, kx_pR, kx_pA, kx_pV, kx_s1, kx_s2, kx_sl, kx_pre, kx_c2, kx_pl, kx_cmp, kx_oF, kx_eqN, kx_nil, kx_c1, kx_ft, kx_aI, kx_aL, kx_aR, kx_ln, Nat.reduceAdd, Option.toList, List.cons_append, List.nil_append, mW_o, mf_26, m_103, mf_33, m_110, mf_27, m_104, mf_53, mf_54, mf_55, mf_32, m_109]
      repeat (simp only [ms_103, ms_110, ms_104, mu_53, mW_so, mu_54, mu_55, ms_109, nI_clamp (show c < 2 ^ 31 by omega), h103, h110, nI_add, nI_1, ck_i24]; try dsimp only [kx_wp, kx_step, kx_lI, kx_lL, kx_lA, kx_gl, kx_pI, kx_pL, kx_pR, kx_pA, kx_pV, kx_s1, kx_s2, kx_sl, kx_pre, kx_c2, kx_pl, kx_cmp, kx_oF, kx_eqN, kx_nil, kx_c1, kx_ft, kx_aI, kx_aL, kx_aR, kx_ln, Nat.reduceAdd, Option.toList, List.cons_append, List.nil_append, mW_o, mf_26, m_103, mf_33, m_110, mf_27, m_104, mf_53, mf_54, mf_55, mf_32, m_109])
      repeat' apply And.intro
      all_goals try (first | with_reducible assumption | (with_reducible refine ck_nzI ?_; simp; done) | (with_reducible refine ck_nzL ?_; simp; done) | (with_reducible refine vp_in_nI ?_ ?_ <;> first | omega | decide) | (with_reducible refine Nat.le_of_ble_eq_true ?_; rfl) | omega)
      first | exact j159t _ ze151 | exact j159f _ ze151
    · intro zc151
      with_reducible first | have ze151 := Int32.not_lt.mp zc151 | have ze151 := zc151
      refine hB bX11_findMend_154 _ _ _ _ _ _ _ kX11_findMend_154 ?_
      dsimp only [bX11_findMend_154, kx_wp, kx_step, kx_lI, kx_lL, kx_lA, kx_gl, kx_pI, kx_pL, kx_pR, kx_pA, kx_pV, kx_s1, kx_s2, kx_sl, kx_pre, kx_c2, kx_pl, kx_cmp, kx_oF, kx_eqN, kx_nil, kx_c1, kx_ft, kx_aI, kx_aL, kx_aR, kx_ln, Nat.reduceAdd, Option.toList, List.cons_append, List.nil_append, mW_o, mf_26, m_103, mf_33, m_110, mf_27, m_104, mf_53, mf_54, mf_55, mf_32, m_109]
      repeat (simp only [ms_103, ms_110, ms_104, mu_53, mW_so, mu_54, mu_55, ms_109, nI_clamp (show c < 2 ^ 31 by omega), h103, h110, nI_add, nI_1, ck_i24]; try dsimp only [kx_wp, kx_step, kx_lI, kx_lL, kx_lA, kx_gl, kx_pI, kx_pL, kx_pR, kx_pA, kx_pV, kx_s1, kx_s2, kx_sl, kx_pre, kx_c2, kx_pl, kx_cmp, kx_oF, kx_eqN, kx_nil, kx_c1, kx_ft, kx_aI, kx_aL, kx_aR, kx_ln, Nat.reduceAdd, Option.toList, List.cons_append, List.nil_append, mW_o, mf_26, m_103, mf_33, m_110, mf_27, m_104, mf_53, mf_54, mf_55, mf_32, m_109])
      repeat' apply And.intro
      all_goals try (first | with_reducible assumption | (with_reducible refine ck_nzI ?_; simp; done) | (with_reducible refine ck_nzL ?_; simp; done) | (with_reducible refine vp_in_nI ?_ ?_ <;> first | omega | decide) | (with_reducible refine Nat.le_of_ble_eq_true ?_; rfl) | omega)
      first | exact j159t _ ze151 | exact j159f _ ze151
  have j85x : ∀ k : Nat, LL ≤ k → k < 2 ^ 20 → g 85 [some (.ref 93), some (.int (nI c)), some (.int (nI wm)), some (.int (nI TT)), some (.int (ck_mc A c wm p TT)), some (.int (nI LL)), some (.int (nI k))] [] (mW M A L R) sz 0 0 := by
    intro k hk hk2
    refine hB bX11_findMend_85 _ _ _ _ _ _ _ kX11_findMend_85 ?_
    dsimp only [bX11_findMend_85, kx_wp, kx_step, kx_lI, kx_lL, kx_lA, kx_gl, kx_pI, kx_pL, kx_pR, kx_pA, kx_pV, kx_s1, kx_s2, kx_sl, kx_pre, kx_c2, kx_pl, kx_cmp, kx_oF, kx_eqN, kx_nil, kx_c1, kx_ft, kx_aI, kx_aL, kx_aR, kx_ln, Nat.reduceAdd, Option.toList, List.cons_append, List.nil_append, mW_o, mf_26, m_103, mf_33, m_110, mf_27, m_104, mf_53, mf_54, mf_55, mf_32, m_109]
    repeat (simp only [ms_103, ms_110, ms_104, mu_53, mW_so, mu_54, mu_55, ms_109, nI_clamp (show c < 2 ^ 31 by omega), h103, h110, nI_add, nI_1, ck_i24]; try dsimp only [kx_wp, kx_step, kx_lI, kx_lL, kx_lA, kx_gl, kx_pI, kx_pL, kx_pR, kx_pA, kx_pV, kx_s1, kx_s2, kx_sl, kx_pre, kx_c2, kx_pl, kx_cmp, kx_oF, kx_eqN, kx_nil, kx_c1, kx_ft, kx_aI, kx_aL, kx_aR, kx_ln, Nat.reduceAdd, Option.toList, List.cons_append, List.nil_append, mW_o, mf_26, m_103, mf_33, m_110, mf_27, m_104, mf_53, mf_54, mf_55, mf_32, m_109])
    repeat' apply And.intro
    all_goals try (first | with_reducible assumption | (with_reducible refine ck_nzI ?_; simp; done) | (with_reducible refine ck_nzL ?_; simp; done) | (with_reducible refine vp_in_nI ?_ ?_ <;> first | omega | decide) | (with_reducible refine Nat.le_of_ble_eq_true ?_; rfl) | omega)
    · intro zc89
      with_reducible first | have ze89 := Int32.not_lt.mpr zc89 | have ze89 := zc89
      exact j125 _
    · intro zc89
      first | exact absurd rfl zc89 | exact absurd zc89 (by decide) | exact absurd (by decide) zc89 | (exfalso; first | exact absurd zc89 (by first | (simp only [nI_leI (show LL < 2 ^ 31 by omega) (show k < 2 ^ 31 by omega)]; omega) | (simp only [nI_leI (show LL < 2 ^ 31 by omega) (show k < 2 ^ 31 by omega), Decidable.not_not]; omega))) | (exfalso; simp_all; done)
  have j115 : ∀ (k : Nat), k < 2 ^ 20 → LL = k → g 115 [some (.ref 93), some (.int (nI c)), some (.int (nI wm)), some (.int (nI TT)), some (.int (ck_mc A c wm p TT)), some (.int (nI lf)), some (.int (nI k))] [] (mW M A L R) sz 0 0 := by
    intro k hk2 hk
    subst hk
    refine hB bX11_findMend_115 _ _ _ _ _ _ _ kX11_findMend_115 ?_
    dsimp only [bX11_findMend_115, kx_wp, kx_step, kx_lI, kx_lL, kx_lA, kx_gl, kx_pI, kx_pL, kx_pR, kx_pA, kx_pV, kx_s1, kx_s2, kx_sl, kx_pre, kx_c2, kx_pl, kx_cmp, kx_oF, kx_eqN, kx_nil, kx_c1, kx_ft, kx_aI, kx_aL, kx_aR, kx_ln, Nat.reduceAdd, Option.toList, List.cons_append, List.nil_append, mW_o, mf_26, m_103, mf_33, m_110, mf_27, m_104, mf_53, mf_54, mf_55, mf_32, m_109]
    repeat (simp only [ms_103, ms_110, ms_104, mu_53, mW_so, mu_54, mu_55, ms_109, nI_clamp (show c < 2 ^ 31 by omega), h103, h110, nI_add, nI_1, ck_i24]; try dsimp only [kx_wp, kx_step, kx_lI, kx_lL, kx_lA, kx_gl, kx_pI, kx_pL, kx_pR, kx_pA, kx_pV, kx_s1, kx_s2, kx_sl, kx_pre, kx_c2, kx_pl, kx_cmp, kx_oF, kx_eqN, kx_nil, kx_c1, kx_ft, kx_aI, kx_aL, kx_aR, kx_ln, Nat.reduceAdd, Option.toList, List.cons_append, List.nil_append, mW_o, mf_26, m_103, mf_33, m_110, mf_27, m_104, mf_53, mf_54, mf_55, mf_32, m_109])
    repeat' apply And.intro
    all_goals try (first | with_reducible assumption | (with_reducible refine ck_nzI ?_; simp; done) | (with_reducible refine ck_nzL ?_; simp; done) | (with_reducible refine vp_in_nI ?_ ?_ <;> first | omega | decide) | (with_reducible refine Nat.le_of_ble_eq_true ?_; rfl) | omega)
    refine hB bX11_findMend_119 _ _ _ _ _ _ _ kX11_findMend_119 ?_
    dsimp only [bX11_findMend_119, kx_wp, kx_step, kx_lI, kx_lL, kx_lA, kx_gl, kx_pI, kx_pL, kx_pR, kx_pA, kx_pV, kx_s1, kx_s2, kx_sl, kx_pre, kx_c2, kx_pl, kx_cmp, kx_oF, kx_eqN, kx_nil, kx_c1, kx_ft, kx_aI, kx_aL, kx_aR, kx_ln, Nat.reduceAdd, Option.toList, List.cons_append, List.nil_append, mW_o, mf_26, m_103, mf_33, m_110, mf_27, m_104, mf_53, mf_54, mf_55, mf_32, m_109]
    repeat (simp only [ms_103, ms_110, ms_104, mu_53, mW_so, mu_54, mu_55, ms_109, nI_clamp (show c < 2 ^ 31 by omega), h103, h110, nI_add, nI_1, ck_i24]; try dsimp only [kx_wp, kx_step, kx_lI, kx_lL, kx_lA, kx_gl, kx_pI, kx_pL, kx_pR, kx_pA, kx_pV, kx_s1, kx_s2, kx_sl, kx_pre, kx_c2, kx_pl, kx_cmp, kx_oF, kx_eqN, kx_nil, kx_c1, kx_ft, kx_aI, kx_aL, kx_aR, kx_ln, Nat.reduceAdd, Option.toList, List.cons_append, List.nil_append, mW_o, mf_26, m_103, mf_33, m_110, mf_27, m_104, mf_53, mf_54, mf_55, mf_32, m_109])
    repeat' apply And.intro
    all_goals try (first | with_reducible assumption | (with_reducible refine ck_nzI ?_; simp; done) | (with_reducible refine ck_nzL ?_; simp; done) | (with_reducible refine vp_in_nI ?_ ?_ <;> first | omega | decide) | (with_reducible refine Nat.le_of_ble_eq_true ?_; rfl) | omega)
    exact j85x _ (by omega) (by omega)
  have j119 : ∀ (k : Nat), k < 2 ^ 19 → g 85 [some (.ref 93), some (.int (nI c)), some (.int (nI wm)), some (.int (nI TT)), some (.int (ck_mc A c wm p TT)), some (.int (nI lf)), some (.int (nI (k + 1)))] [] (mW M A L R) sz 0 0 → g 119 [some (.ref 93), some (.int (nI c)), some (.int (nI wm)), some (.int (nI TT)), some (.int (ck_mc A c wm p TT)), some (.int (nI lf)), some (.int (nI k))] [] (mW M A L R) sz 0 0 := by
    intro k hk2 hg
    refine hB bX11_findMend_119 _ _ _ _ _ _ _ kX11_findMend_119 ?_
    dsimp only [bX11_findMend_119, kx_wp, kx_step, kx_lI, kx_lL, kx_lA, kx_gl, kx_pI, kx_pL, kx_pR, kx_pA, kx_pV, kx_s1, kx_s2, kx_sl, kx_pre, kx_c2, kx_pl, kx_cmp, kx_oF, kx_eqN, kx_nil, kx_c1, kx_ft, kx_aI, kx_aL, kx_aR, kx_ln, Nat.reduceAdd, Option.toList, List.cons_append, List.nil_append, mW_o, mf_26, m_103, mf_33, m_110, mf_27, m_104, mf_53, mf_54, mf_55, mf_32, m_109]
    repeat (simp only [ms_103, ms_110, ms_104, mu_53, mW_so, mu_54, mu_55, ms_109, nI_clamp (show c < 2 ^ 31 by omega), h103, h110, nI_add, nI_1, ck_i24]; try dsimp only [kx_wp, kx_step, kx_lI, kx_lL, kx_lA, kx_gl, kx_pI, kx_pL, kx_pR, kx_pA, kx_pV, kx_s1, kx_s2, kx_sl, kx_pre, kx_c2, kx_pl, kx_cmp, kx_oF, kx_eqN, kx_nil, kx_c1, kx_ft, kx_aI, kx_aL, kx_aR, kx_ln, Nat.reduceAdd, Option.toList, List.cons_append, List.nil_append, mW_o, mf_26, m_103, mf_33, m_110, mf_27, m_104, mf_53, mf_54, mf_55, mf_32, m_109])
    repeat' apply And.intro
    all_goals try (first | with_reducible assumption | (with_reducible refine ck_nzI ?_; simp; done) | (with_reducible refine ck_nzL ?_; simp; done) | (with_reducible refine vp_in_nI ?_ ?_ <;> first | omega | decide) | (with_reducible refine Nat.le_of_ble_eq_true ?_; rfl) | omega)
    all_goals exact hg
  have loop85 : ∀ (n9 k : Nat), lf - k = n9 → 1 ≤ k → k < 100 → LL = ck_ml A c wm (a / 3600000000 + 1) p lf n9 k → g 85 [some (.ref 93), some (.int (nI c)), some (.int (nI wm)), some (.int (nI TT)), some (.int (ck_mc A c wm p TT)), some (.int (nI lf)), some (.int (nI k))] [] (mW M A L R) sz 0 0 := by
    intro n9
    induction n9 with
    | zero =>
      intro k hk h1 hk2 hE
      rw [ck_ml] at hE
      subst hE
      exact j85x k (by omega) (by omega)
    | succ n9 ih =>
      intro k hk h1 hk2 hE
      rw [ck_ml] at hE
      have zk1 : nI k - nI k / nI wm * nI wm = nI k := by rw [pk_rem (by omega) (by omega) (by omega), Nat.mod_eq_of_lt (by omega)]
      have zk2 : nI p - nI k + nI wm = nI (p + wm - k) := by rw [← pk_sub (show k ≤ p + wm by omega), ← nI_add, Int32.sub_eq_add_neg, Int32.sub_eq_add_neg, Int32.add_assoc, Int32.add_comm (-nI k), ← Int32.add_assoc]
      have zk3 : nI (p + wm - k) - nI (p + wm - k) / nI wm * nI wm = nI ((p + wm - k) % wm) := pk_rem (by omega) (by omega) (by omega)
      have zm := Nat.mod_lt (p + wm - k) (show 0 < wm by omega)
      refine hB bX11_findMend_85 _ _ _ _ _ _ _ kX11_findMend_85 ?_
      dsimp only [bX11_findMend_85, kx_wp, kx_step, kx_lI, kx_lL, kx_lA, kx_gl, kx_pI, kx_pL, kx_pR, kx_pA, kx_pV, kx_s1, kx_s2, kx_sl, kx_pre, kx_c2, kx_pl, kx_cmp, kx_oF, kx_eqN, kx_nil, kx_c1, kx_ft, kx_aI, kx_aL, kx_aR, kx_ln, Nat.reduceAdd, Option.toList, List.cons_append, List.nil_append, mW_o, mf_26, m_103, mf_33, m_110, mf_27, m_104, mf_53, mf_54, mf_55, mf_32, m_109]
      repeat (simp only [ms_103, ms_110, ms_104, mu_53, mW_so, mu_54, mu_55, ms_109, nI_clamp (show c < 2 ^ 31 by omega), h103, h110, nI_add, nI_1, ck_i24, zk1, zk2, zk3]; try dsimp only [kx_wp, kx_step, kx_lI, kx_lL, kx_lA, kx_gl, kx_pI, kx_pL, kx_pR, kx_pA, kx_pV, kx_s1, kx_s2, kx_sl, kx_pre, kx_c2, kx_pl, kx_cmp, kx_oF, kx_eqN, kx_nil, kx_c1, kx_ft, kx_aI, kx_aL, kx_aR, kx_ln, Nat.reduceAdd, Option.toList, List.cons_append, List.nil_append, mW_o, mf_26, m_103, mf_33, m_110, mf_27, m_104, mf_53, mf_54, mf_55, mf_32, m_109])
      repeat' apply And.intro
      all_goals try (first | with_reducible assumption | (with_reducible refine ck_nzI ?_; simp; done) | (with_reducible refine ck_nzL ?_; simp; done) | (with_reducible refine vp_in_nI ?_ ?_ <;> first | omega | decide) | (with_reducible refine Nat.le_of_ble_eq_true ?_; rfl) | omega)
      · intro zc89
        first | exact absurd rfl zc89 | exact absurd zc89 (by decide) | exact absurd (by decide) zc89 | (exfalso; first | exact absurd zc89 (by first | (simp only [nI_leI (show lf < 2 ^ 31 by omega) (show k < 2 ^ 31 by omega)]; omega) | (simp only [nI_leI (show lf < 2 ^ 31 by omega) (show k < 2 ^ 31 by omega), Decidable.not_not]; omega))) | (exfalso; simp_all; done)
      · intro zc89
        with_reducible first | have ze89 := Int32.not_le.mp zc89 | have ze89 := zc89
        refine hB bX11_findMend_92 _ _ _ _ _ _ _ kX11_findMend_92 ?_
        dsimp only [bX11_findMend_92, kx_wp, kx_step, kx_lI, kx_lL, kx_lA, kx_gl, kx_pI, kx_pL, kx_pR, kx_pA, kx_pV, kx_s1, kx_s2, kx_sl, kx_pre, kx_c2, kx_pl, kx_cmp, kx_oF, kx_eqN, kx_nil, kx_c1, kx_ft, kx_aI, kx_aL, kx_aR, kx_ln, Nat.reduceAdd, Option.toList, List.cons_append, List.nil_append, mW_o, mf_26, m_103, mf_33, m_110, mf_27, m_104, mf_53, mf_54, mf_55, mf_32, m_109]
        repeat (simp only [ms_103, ms_110, ms_104, mu_53, mW_so, mu_54, mu_55, ms_109, nI_clamp (show c < 2 ^ 31 by omega), h103, h110, nI_add, nI_1, ck_i24, zk1, zk2, zk3]; try dsimp only [kx_wp, kx_step, kx_lI, kx_lL, kx_lA, kx_gl, kx_pI, kx_pL, kx_pR, kx_pA, kx_pV, kx_s1, kx_s2, kx_sl, kx_pre, kx_c2, kx_pl, kx_cmp, kx_oF, kx_eqN, kx_nil, kx_c1, kx_ft, kx_aI, kx_aL, kx_aR, kx_ln, Nat.reduceAdd, Option.toList, List.cons_append, List.nil_append, mW_o, mf_26, m_103, mf_33, m_110, mf_27, m_104, mf_53, mf_54, mf_55, mf_32, m_109])
        repeat' apply And.intro
        all_goals try (first | with_reducible assumption | (with_reducible refine ck_nzI ?_; simp; done) | (with_reducible refine ck_nzL ?_; simp; done) | (with_reducible refine vp_in_nI ?_ ?_ <;> first | omega | decide) | (with_reducible refine Nat.le_of_ble_eq_true ?_; rfl) | omega)
        refine hC.1 445 _ _ _ _ _ _ _ 11 _ _ _ _ _ _ _ _ _ _ _ _ lX11_445 (ct_X11_isInStep l G (fr := (p + wm - k) % wm) hc h103 hw0 (by omega) ha haW) ⟨by decide, rfl⟩ (mW_o) rfl rfl (Nat.le_of_ble_eq_true rfl) (by decide) (by decide) (by omega) (by omega) dX11_findMend_109 ?_
        refine hB bX11_findMend_112 _ _ _ _ _ _ _ kX11_findMend_112 ?_
        dsimp only [bX11_findMend_112, kx_wp, kx_step, kx_lI, kx_lL, kx_lA, kx_gl, kx_pI, kx_pL, kx_pR, kx_pA, kx_pV, kx_s1, kx_s2, kx_sl, kx_pre, kx_c2, kx_pl, kx_cmp, kx_oF, kx_eqN, kx_nil, kx_c1, kx_ft, kx_aI, kx_aL, kx_aR, kx_ln, Nat.reduceAdd, Option.toList, List.cons_append, List.nil_append, mW_o, mf_26, m_103, mf_33, m_110, mf_27, m_104, mf_53, mf_54, mf_55, mf_32, m_109]
        repeat (simp only [ms_103, ms_110, ms_104, mu_53, mW_so, mu_54, mu_55, ms_109, nI_clamp (show c < 2 ^ 31 by omega), h103, h110, nI_add, nI_1, ck_i24, zk1, zk2, zk3]; try dsimp only [kx_wp, kx_step, kx_lI, kx_lL, kx_lA, kx_gl, kx_pI, kx_pL, kx_pR, kx_pA, kx_pV, kx_s1, kx_s2, kx_sl, kx_pre, kx_c2, kx_pl, kx_cmp, kx_oF, kx_eqN, kx_nil, kx_c1, kx_ft, kx_aI, kx_aL, kx_aR, kx_ln, Nat.reduceAdd, Option.toList, List.cons_append, List.nil_append, mW_o, mf_26, m_103, mf_33, m_110, mf_27, m_104, mf_53, mf_54, mf_55, mf_32, m_109])
        repeat' apply And.intro
        all_goals try (first | with_reducible assumption | (with_reducible refine ck_nzI ?_; simp; done) | (with_reducible refine ck_nzL ?_; simp; done) | (with_reducible refine vp_in_nI ?_ ?_ <;> first | omega | decide) | (with_reducible refine Nat.le_of_ble_eq_true ?_; rfl) | omega)
        · intro zc112
          have ze112 := zc112
          rw [if_pos ze112] at hE
          exact j119 k (by omega) (ih (k + 1) (by omega) (by omega) (by omega) hE)
        · intro zc112
          have ze112 := zc112
          rw [if_neg ze112] at hE
          subst hE
          exact j115 _ (by omega) rfl
  have j68 : ∀ x5 x6, g 68 [some (.ref 93), some (.int (nI c)), some (.int (nI wm)), some (.int (nI TT)), some (.int (ck_mc A c wm p TT)), x5, x6] [] (mW M A L R) sz 0 0 := by
    intro x5 x6
    refine hB bX11_findMend_68 _ _ _ _ _ _ _ kX11_findMend_68 ?_
    dsimp only [bX11_findMend_68, kx_wp, kx_step, kx_lI, kx_lL, kx_lA, kx_gl, kx_pI, kx_pL, kx_pR, kx_pA, kx_pV, kx_s1, kx_s2, kx_sl, kx_pre, kx_c2, kx_pl, kx_cmp, kx_oF, kx_eqN, kx_nil, kx_c1, kx_ft, kx_aI, kx_aL, kx_aR, kx_ln, Nat.reduceAdd, Option.toList, List.cons_append, List.nil_append, mW_o, mf_26, m_103, mf_33, m_110, mf_27, m_104, mf_53, mf_54, mf_55, mf_32, m_109]
    repeat (simp only [ms_103, ms_110, ms_104, mu_53, mW_so, mu_54, mu_55, ms_109, nI_clamp (show c < 2 ^ 31 by omega), h103, h110, nI_add, nI_1, ck_i24, zs1, zs2]; try dsimp only [kx_wp, kx_step, kx_lI, kx_lL, kx_lA, kx_gl, kx_pI, kx_pL, kx_pR, kx_pA, kx_pV, kx_s1, kx_s2, kx_sl, kx_pre, kx_c2, kx_pl, kx_cmp, kx_oF, kx_eqN, kx_nil, kx_c1, kx_ft, kx_aI, kx_aL, kx_aR, kx_ln, Nat.reduceAdd, Option.toList, List.cons_append, List.nil_append, mW_o, mf_26, m_103, mf_33, m_110, mf_27, m_104, mf_53, mf_54, mf_55, mf_32, m_109])
    repeat' apply And.intro
    all_goals try (first | with_reducible assumption | (with_reducible refine ck_nzI ?_; simp; done) | (with_reducible refine ck_nzL ?_; simp; done) | (with_reducible refine vp_in_nI ?_ ?_ <;> first | omega | decide) | (with_reducible refine Nat.le_of_ble_eq_true ?_; rfl) | omega)
    · intro zc70
      have ze70 := zc70
      refine hB bX11_findMend_75 _ _ _ _ _ _ _ kX11_findMend_75 ?_
      dsimp only [bX11_findMend_75, kx_wp, kx_step, kx_lI, kx_lL, kx_lA, kx_gl, kx_pI, kx_pL, kx_pR, kx_pA, kx_pV, kx_s1, kx_s2, kx_sl, kx_pre, kx_c2, kx_pl, kx_cmp, kx_oF, kx_eqN, kx_nil, kx_c1, kx_ft, kx_aI, kx_aL, kx_aR, kx_ln, Nat.reduceAdd, Option.toList, List.cons_append, List.nil_append, mW_o, mf_26, m_103, mf_33, m_110, mf_27, m_104, mf_53, mf_54, mf_55, mf_32, m_109]
      repeat (simp only [ms_103, ms_110, ms_104, mu_53, mW_so, mu_54, mu_55, ms_109, nI_clamp (show c < 2 ^ 31 by omega), h103, h110, nI_add, nI_1, ck_i24, zs1, zs2]; try dsimp only [kx_wp, kx_step, kx_lI, kx_lL, kx_lA, kx_gl, kx_pI, kx_pL, kx_pR, kx_pA, kx_pV, kx_s1, kx_s2, kx_sl, kx_pre, kx_c2, kx_pl, kx_cmp, kx_oF, kx_eqN, kx_nil, kx_c1, kx_ft, kx_aI, kx_aL, kx_aR, kx_ln, Nat.reduceAdd, Option.toList, List.cons_append, List.nil_append, mW_o, mf_26, m_103, mf_33, m_110, mf_27, m_104, mf_53, mf_54, mf_55, mf_32, m_109])
      repeat' apply And.intro
      all_goals try (first | with_reducible assumption | (with_reducible refine ck_nzI ?_; simp; done) | (with_reducible refine ck_nzL ?_; simp; done) | (with_reducible refine vp_in_nI ?_ ?_ <;> first | omega | decide) | (with_reducible refine Nat.le_of_ble_eq_true ?_; rfl) | omega)
      exact loop85 (lf - 1) 1 (by omega) (by omega) (by omega) hLL
    · intro zc70
      first | exact absurd rfl zc70 | exact absurd zc70 (by decide) | exact absurd (by decide) zc70 | (exfalso; first | exact Nat.ne_of_lt hT1 ((nI_eq (by omega) (by omega)).mp zc70) | exact Nat.ne_of_lt hT1 ((nI_eq (by omega) (by omega)).mp (Decidable.not_not.mp zc70)) | exact absurd zc159 (by decide)) | (exfalso; simp_all; done)
  have loop12 : ∀ (n9 t : Nat) (x5 x6 : Option Value), t + n9 = wm → TT = ck_mt A c wm (a / 3600000000 + 1) p n9 t → g 12 [some (.ref 93), some (.int (nI c)), some (.int (nI wm)), some (.int (nI t)), some (.int (ck_mc A c wm p t)), x5, x6] [] (mW M A L R) sz 0 0 := by
    intro n9
    induction n9 with
    | zero =>
      intro t x5 x6 ht hE
      rw [ck_mt] at hE
      exfalso
      omega
    | succ n9 ih =>
      intro t x5 x6 ht hE
      rw [ck_mt] at hE
      have zr1 : nI (p + t) - nI (p + t) / nI wm * nI wm = nI ((p + t) % wm) := pk_rem (by omega) (by omega) (by omega)
      have zm := Nat.mod_lt (p + t) (show 0 < wm by omega)
      have zz : ck_mc A c wm p t + (1 + A 104 (24 * c + (p + t) % wm)) = ck_mc A c wm p (t + 1) := rfl
      refine hB bX11_findMend_12 _ _ _ _ _ _ _ kX11_findMend_12 ?_
      dsimp only [bX11_findMend_12, kx_wp, kx_step, kx_lI, kx_lL, kx_lA, kx_gl, kx_pI, kx_pL, kx_pR, kx_pA, kx_pV, kx_s1, kx_s2, kx_sl, kx_pre, kx_c2, kx_pl, kx_cmp, kx_oF, kx_eqN, kx_nil, kx_c1, kx_ft, kx_aI, kx_aL, kx_aR, kx_ln, Nat.reduceAdd, Option.toList, List.cons_append, List.nil_append, mW_o, mf_26, m_103, mf_33, m_110, mf_27, m_104, mf_53, mf_54, mf_55, mf_32, m_109]
      repeat (simp only [ms_103, ms_110, ms_104, mu_53, mW_so, mu_54, mu_55, ms_109, nI_clamp (show c < 2 ^ 31 by omega), h103, h110, nI_add, nI_1, ck_i24, zr1, nI_clamp (show 24 * c + (p + t) % wm < 2 ^ 31 by omega), zz]; try dsimp only [kx_wp, kx_step, kx_lI, kx_lL, kx_lA, kx_gl, kx_pI, kx_pL, kx_pR, kx_pA, kx_pV, kx_s1, kx_s2, kx_sl, kx_pre, kx_c2, kx_pl, kx_cmp, kx_oF, kx_eqN, kx_nil, kx_c1, kx_ft, kx_aI, kx_aL, kx_aR, kx_ln, Nat.reduceAdd, Option.toList, List.cons_append, List.nil_append, mW_o, mf_26, m_103, mf_33, m_110, mf_27, m_104, mf_53, mf_54, mf_55, mf_32, m_109])
      repeat' apply And.intro
      all_goals try (first | with_reducible assumption | (with_reducible refine ck_nzI ?_; simp; done) | (with_reducible refine ck_nzL ?_; simp; done) | (with_reducible refine vp_in_nI ?_ ?_ <;> first | omega | decide) | (with_reducible refine Nat.le_of_ble_eq_true ?_; rfl) | omega)
      · intro zc14
        first | exact absurd rfl zc14 | exact absurd zc14 (by decide) | exact absurd (by decide) zc14 | (exfalso; first | exact absurd zc14 (by first | (simp only [nI_leI (show wm < 2 ^ 31 by omega) (show t < 2 ^ 31 by omega)]; omega) | (simp only [nI_leI (show wm < 2 ^ 31 by omega) (show t < 2 ^ 31 by omega), Decidable.not_not]; omega))) | (exfalso; simp_all; done)
      · intro zc14
        with_reducible first | have ze14 := Int32.not_le.mp zc14 | have ze14 := zc14
        refine hB bX11_findMend_17 _ _ _ _ _ _ _ kX11_findMend_17 ?_
        dsimp only [bX11_findMend_17, kx_wp, kx_step, kx_lI, kx_lL, kx_lA, kx_gl, kx_pI, kx_pL, kx_pR, kx_pA, kx_pV, kx_s1, kx_s2, kx_sl, kx_pre, kx_c2, kx_pl, kx_cmp, kx_oF, kx_eqN, kx_nil, kx_c1, kx_ft, kx_aI, kx_aL, kx_aR, kx_ln, Nat.reduceAdd, Option.toList, List.cons_append, List.nil_append, mW_o, mf_26, m_103, mf_33, m_110, mf_27, m_104, mf_53, mf_54, mf_55, mf_32, m_109]
        repeat (simp only [ms_103, ms_110, ms_104, mu_53, mW_so, mu_54, mu_55, ms_109, nI_clamp (show c < 2 ^ 31 by omega), h103, h110, nI_add, nI_1, ck_i24, zr1, nI_clamp (show 24 * c + (p + t) % wm < 2 ^ 31 by omega), zz]; try dsimp only [kx_wp, kx_step, kx_lI, kx_lL, kx_lA, kx_gl, kx_pI, kx_pL, kx_pR, kx_pA, kx_pV, kx_s1, kx_s2, kx_sl, kx_pre, kx_c2, kx_pl, kx_cmp, kx_oF, kx_eqN, kx_nil, kx_c1, kx_ft, kx_aI, kx_aL, kx_aR, kx_ln, Nat.reduceAdd, Option.toList, List.cons_append, List.nil_append, mW_o, mf_26, m_103, mf_33, m_110, mf_27, m_104, mf_53, mf_54, mf_55, mf_32, m_109])
        repeat' apply And.intro
        all_goals try (first | with_reducible assumption | (with_reducible refine ck_nzI ?_; simp; done) | (with_reducible refine ck_nzL ?_; simp; done) | (with_reducible refine vp_in_nI ?_ ?_ <;> first | omega | decide) | (with_reducible refine Nat.le_of_ble_eq_true ?_; rfl) | omega)
        refine hC.1 445 _ _ _ _ _ _ _ 11 _ _ _ _ _ _ _ _ _ _ _ _ lX11_445 (ct_X11_isInStep l G (fr := (p + t) % wm) hc h103 hw0 (by omega) ha haW) ⟨by decide, rfl⟩ (mW_o) rfl rfl (Nat.le_of_ble_eq_true rfl) (by decide) (by decide) (by omega) (by omega) dX11_findMend_29 ?_
        refine hB bX11_findMend_32 _ _ _ _ _ _ _ kX11_findMend_32 ?_
        dsimp only [bX11_findMend_32, kx_wp, kx_step, kx_lI, kx_lL, kx_lA, kx_gl, kx_pI, kx_pL, kx_pR, kx_pA, kx_pV, kx_s1, kx_s2, kx_sl, kx_pre, kx_c2, kx_pl, kx_cmp, kx_oF, kx_eqN, kx_nil, kx_c1, kx_ft, kx_aI, kx_aL, kx_aR, kx_ln, Nat.reduceAdd, Option.toList, List.cons_append, List.nil_append, mW_o, mf_26, m_103, mf_33, m_110, mf_27, m_104, mf_53, mf_54, mf_55, mf_32, m_109]
        repeat (simp only [ms_103, ms_110, ms_104, mu_53, mW_so, mu_54, mu_55, ms_109, nI_clamp (show c < 2 ^ 31 by omega), h103, h110, nI_add, nI_1, ck_i24, zr1, nI_clamp (show 24 * c + (p + t) % wm < 2 ^ 31 by omega), zz]; try dsimp only [kx_wp, kx_step, kx_lI, kx_lL, kx_lA, kx_gl, kx_pI, kx_pL, kx_pR, kx_pA, kx_pV, kx_s1, kx_s2, kx_sl, kx_pre, kx_c2, kx_pl, kx_cmp, kx_oF, kx_eqN, kx_nil, kx_c1, kx_ft, kx_aI, kx_aL, kx_aR, kx_ln, Nat.reduceAdd, Option.toList, List.cons_append, List.nil_append, mW_o, mf_26, m_103, mf_33, m_110, mf_27, m_104, mf_53, mf_54, mf_55, mf_32, m_109])
        repeat' apply And.intro
        all_goals try (first | with_reducible assumption | (with_reducible refine ck_nzI ?_; simp; done) | (with_reducible refine ck_nzL ?_; simp; done) | (with_reducible refine vp_in_nI ?_ ?_ <;> first | omega | decide) | (with_reducible refine Nat.le_of_ble_eq_true ?_; rfl) | omega)
        · intro zc32
          have ze32 := zc32
          rw [if_neg ze32] at hE
          subst hE
          exact j68 _ _
        · intro zc32
          with_reducible first | have ze32 := Decidable.not_not.mp zc32 | have ze32 := zc32
          refine hB bX11_findMend_35 _ _ _ _ _ _ _ kX11_findMend_35 ?_
          dsimp only [bX11_findMend_35, kx_wp, kx_step, kx_lI, kx_lL, kx_lA, kx_gl, kx_pI, kx_pL, kx_pR, kx_pA, kx_pV, kx_s1, kx_s2, kx_sl, kx_pre, kx_c2, kx_pl, kx_cmp, kx_oF, kx_eqN, kx_nil, kx_c1, kx_ft, kx_aI, kx_aL, kx_aR, kx_ln, Nat.reduceAdd, Option.toList, List.cons_append, List.nil_append, mW_o, mf_26, m_103, mf_33, m_110, mf_27, m_104, mf_53, mf_54, mf_55, mf_32, m_109]
          repeat (simp only [ms_103, ms_110, ms_104, mu_53, mW_so, mu_54, mu_55, ms_109, nI_clamp (show c < 2 ^ 31 by omega), h103, h110, nI_add, nI_1, ck_i24, zr1, nI_clamp (show 24 * c + (p + t) % wm < 2 ^ 31 by omega), zz]; try dsimp only [kx_wp, kx_step, kx_lI, kx_lL, kx_lA, kx_gl, kx_pI, kx_pL, kx_pR, kx_pA, kx_pV, kx_s1, kx_s2, kx_sl, kx_pre, kx_c2, kx_pl, kx_cmp, kx_oF, kx_eqN, kx_nil, kx_c1, kx_ft, kx_aI, kx_aL, kx_aR, kx_ln, Nat.reduceAdd, Option.toList, List.cons_append, List.nil_append, mW_o, mf_26, m_103, mf_33, m_110, mf_27, m_104, mf_53, mf_54, mf_55, mf_32, m_109])
          repeat' apply And.intro
          all_goals try (first | with_reducible assumption | (with_reducible refine ck_nzI ?_; simp; done) | (with_reducible refine ck_nzL ?_; simp; done) | (with_reducible refine vp_in_nI ?_ ?_ <;> first | omega | decide) | (with_reducible refine Nat.le_of_ble_eq_true ?_; rfl) | omega)
          rw [if_pos ze32] at hE
          exact ih (t + 1) _ _ (by omega) hE
  refine hB bX11_findMend_0 _ _ _ _ _ _ _ kX11_findMend_0 ?_
  dsimp only [bX11_findMend_0, kx_wp, kx_step, kx_lI, kx_lL, kx_lA, kx_gl, kx_pI, kx_pL, kx_pR, kx_pA, kx_pV, kx_s1, kx_s2, kx_sl, kx_pre, kx_c2, kx_pl, kx_cmp, kx_oF, kx_eqN, kx_nil, kx_c1, kx_ft, kx_aI, kx_aL, kx_aR, kx_ln, Nat.reduceAdd, Option.toList, List.cons_append, List.nil_append, mW_o, mf_26, m_103, mf_33, m_110, mf_27, m_104, mf_53, mf_54, mf_55, mf_32, m_109]
  repeat (simp only [ms_103, ms_110, ms_104, mu_53, mW_so, mu_54, mu_55, ms_109, nI_clamp (show c < 2 ^ 31 by omega), h103, h110, nI_add, nI_1, ck_i24]; try dsimp only [kx_wp, kx_step, kx_lI, kx_lL, kx_lA, kx_gl, kx_pI, kx_pL, kx_pR, kx_pA, kx_pV, kx_s1, kx_s2, kx_sl, kx_pre, kx_c2, kx_pl, kx_cmp, kx_oF, kx_eqN, kx_nil, kx_c1, kx_ft, kx_aI, kx_aL, kx_aR, kx_ln, Nat.reduceAdd, Option.toList, List.cons_append, List.nil_append, mW_o, mf_26, m_103, mf_33, m_110, mf_27, m_104, mf_53, mf_54, mf_55, mf_32, m_109])
  repeat' apply And.intro
  all_goals try (first | with_reducible assumption | (with_reducible refine ck_nzI ?_; simp; done) | (with_reducible refine ck_nzL ?_; simp; done) | (with_reducible refine vp_in_nI ?_ ?_ <;> first | omega | decide) | (with_reducible refine Nat.le_of_ble_eq_true ?_; rfl) | omega)
  exact loop12 wm 0 _ _ (by omega) hTT


/-- the least of the windings, over the sets below w -/
def ck_fm (f : Nat → Nat) (many : Nat) : Nat → Nat
  | 0 => 1000
  | w + 1 => if many < ck_pc w then ck_fm f many w else if ck_pc w + f w < ck_fm f many w then ck_pc w + f w else ck_fm f many w
def ck_fw (lf run : Nat → Nat) (pk many : Nat) : Nat → Nat → Nat → Nat
  | 0, t, s => if ck_ag lf run s t pk 0 = true then 0 else 1000
  | n + 1, t, s => if ck_ag lf run s t pk 0 = true then ck_fm (fun w => ck_fw lf run pk many n (t + 1) (ck_wd s w t pk)) many (2 ^ pk) else 1000
theorem ck_fm_le (f : Nat → Nat) (many : Nat) : ∀ w, ck_fm f many w ≤ 1000
  | 0 => Nat.le_refl _
  | w + 1 => by
    have := ck_fm_le f many w
    unfold ck_fm
    split
    · exact this
    · split <;> omega
theorem ck_fw_le (lf run : Nat → Nat) (pk many n t s : Nat) : ck_fw lf run pk many n t s ≤ 1000 := by
  cases n with
  | zero => unfold ck_fw; split <;> omega
  | succ n =>
    unfold ck_fw
    split
    · exact ck_fm_le _ _ _
    · exact Nat.le_refl _
/-- what is noted is right -/
def ck_me (lf run : Nat → Nat) (pk many days : Nat) (F : Nat → Int32) : Prop := ∀ t s, t ≤ days → s < 14641 → F (14641 * t + s) = -1 ∨ F (14641 * t + s) = nI (ck_fw lf run pk many (days - t) t s)
theorem ck_me_up {lf run : Nat → Nat} {pk many days : Nat} {F : Nat → Int32} (h : ck_me lf run pk many days F) {t s v : Nat} (hs : s < 14641) (hv : v = ck_fw lf run pk many (days - t) t s) : ck_me lf run pk many days (upd F (14641 * t + s) (nI v)) := by
  intro t2 s2 ht2 hs2
  by_cases e : 14641 * t2 + s2 = 14641 * t + s
  · have e1 : t2 = t := by omega
    have e2 : s2 = s := by omega
    subst e1 e2
    exact Or.inr (by rw [pk_us, hv])
  · rw [pk_un e]; exact h t2 s2 ht2 hs2
theorem ck_p2 : ∀ pk, pk ≤ 4 → (1 : Int32) <<< (nI pk &&& 31) = nI (2 ^ pk) := by decide

def bX11_few_0 : List kx_O := [(.aload_n 0, 0, 0, 0, .null), (.iload_n 2, 2, 0, 0, .null), (.iload_n 1, 1, 0, 0, .null)]
theorem kX11_few_0 : kx_oks kxL_X11 false cX11_few 0 bX11_few_0 = true := by decide +kernel
def bX11_few_6 : List kx_O := [(.ifCond .ne 7, 13, 0, 0, .null)]
theorem kX11_few_6 : kx_oks kxL_X11 false cX11_few 6 bX11_few_6 = true := by decide +kernel
def bX11_few_9 : List kx_O := [(.sipush 1000, 0, 0, 0, .int 1000), (.ireturn, 0, 0, 0, .null)]
theorem kX11_few_9 : kx_oks kxL_X11 false cX11_few 9 bX11_few_9 = true := by decide +kernel
def bX11_few_13 : List kx_O := [(.iload_n 1, 1, 0, 0, .null), (.aload_n 0, 0, 0, 0, .null), (.getfield 513, 11, 66, 0, .null), (.if_icmp .ne 5, 23, 0, 0, .null)]
theorem kX11_few_13 : kx_oks kxL_X11 false cX11_few 13 bX11_few_13 = true := by decide +kernel
def bX11_few_21 : List kx_O := [(.iconst 0, 0, 0, 0, .int 0), (.ireturn, 0, 0, 0, .null)]
theorem kX11_few_21 : kx_oks kxL_X11 false cX11_few 21 bX11_few_21 = true := by decide +kernel
def bX11_few_23 : List kx_O := [(.sipush 14641, 0, 0, 0, .int 14641), (.iload_n 1, 1, 0, 0, .null), (.imul, 0, 0, 0, .null), (.iload_n 2, 2, 0, 0, .null), (.iadd, 0, 0, 0, .null), (.istore_n 3, 3, 0, 0, .null), (.aload_n 0, 0, 0, 0, .null), (.getfield 125, 11, 70, 0, .null), (.iload_n 3, 3, 0, 0, .null), (.iaload, 0, 0, 0, .null), (.iconst (-1), 0, 0, 0, .int (-1)), (.if_icmp .eq 10, 48, 0, 0, .null)]
theorem kX11_few_23 : kx_oks kxL_X11 false cX11_few 23 bX11_few_23 = true := by decide +kernel
def bX11_few_41 : List kx_O := [(.aload_n 0, 0, 0, 0, .null), (.getfield 125, 11, 70, 0, .null), (.iload_n 3, 3, 0, 0, .null), (.iaload, 0, 0, 0, .null), (.ireturn, 0, 0, 0, .null)]
theorem kX11_few_41 : kx_oks kxL_X11 false cX11_few 41 bX11_few_41 = true := by decide +kernel
def bX11_few_48 : List kx_O := [(.sipush 1000, 0, 0, 0, .int 1000), (.istore 4, 4, 0, 0, .null), (.iconst 0, 0, 0, 0, .int 0), (.istore 5, 5, 0, 0, .null)]
theorem kX11_few_48 : kx_oks kxL_X11 false cX11_few 48 bX11_few_48 = true := by decide +kernel
def bX11_few_56 : List kx_O := [(.iload 5, 5, 0, 0, .null), (.iconst 1, 0, 0, 0, .int 1), (.aload_n 0, 0, 0, 0, .null), (.getfield 501, 11, 68, 0, .null), (.ishl, 0, 0, 0, .null), (.if_icmp .ge 63, 127, 0, 0, .null)]
theorem kX11_few_56 : kx_oks kxL_X11 false cX11_few 56 bX11_few_56 = true := by decide +kernel
def bX11_few_67 : List kx_O := [(.iload 5, 5, 0, 0, .null)]
theorem kX11_few_67 : kx_oks kxL_X11 false cX11_few 67 bX11_few_67 = true := by decide +kernel
def bX11_few_72 : List kx_O := [(.aload_n 0, 0, 0, 0, .null), (.getfield 519, 11, 67, 0, .null), (.if_icmp .le 6, 82, 0, 0, .null)]
theorem kX11_few_72 : kx_oks kxL_X11 false cX11_few 72 bX11_few_72 = true := by decide +kernel
def bX11_few_79 : List kx_O := [(.goto 42, 121, 0, 0, .null)]
theorem kX11_few_79 : kx_oks kxL_X11 false cX11_few 79 bX11_few_79 = true := by decide +kernel
def bX11_few_82 : List kx_O := [(.iload 5, 5, 0, 0, .null)]
theorem kX11_few_82 : kx_oks kxL_X11 false cX11_few 82 bX11_few_82 = true := by decide +kernel
def bX11_few_87 : List kx_O := [(.aload_n 0, 0, 0, 0, .null), (.iload_n 1, 1, 0, 0, .null), (.iconst 1, 0, 0, 0, .int 1), (.iadd, 0, 0, 0, .null), (.aload_n 0, 0, 0, 0, .null), (.iload_n 2, 2, 0, 0, .null), (.iload 5, 5, 0, 0, .null), (.iload_n 1, 1, 0, 0, .null)]
theorem kX11_few_87 : kx_oks kxL_X11 false cX11_few 87 bX11_few_87 = true := by decide +kernel
def bX11_few_102 : List kx_O := [(.iadd, 0, 0, 0, .null), (.istore 6, 6, 0, 0, .null), (.iload 6, 6, 0, 0, .null), (.iload 4, 4, 0, 0, .null), (.if_icmp .ge 8, 117, 0, 0, .null)]
theorem kX11_few_102 : kx_oks kxL_X11 false cX11_few 102 bX11_few_102 = true := by decide +kernel
def bX11_few_112 : List kx_O := [(.iload 6, 6, 0, 0, .null), (.goto 5, 119, 0, 0, .null)]
theorem kX11_few_112 : kx_oks kxL_X11 false cX11_few 112 bX11_few_112 = true := by decide +kernel
def bX11_few_117 : List kx_O := [(.iload 4, 4, 0, 0, .null)]
theorem kX11_few_117 : kx_oks kxL_X11 false cX11_few 117 bX11_few_117 = true := by decide +kernel
def bX11_few_119 : List kx_O := [(.istore 4, 4, 0, 0, .null)]
theorem kX11_few_119 : kx_oks kxL_X11 false cX11_few 119 bX11_few_119 = true := by decide +kernel
def bX11_few_121 : List kx_O := [(.iinc 5 1, 5, 0, 0, .int 1), (.goto (-68), 56, 0, 0, .null)]
theorem kX11_few_121 : kx_oks kxL_X11 false cX11_few 121 bX11_few_121 = true := by decide +kernel
def bX11_few_127 : List kx_O := [(.aload_n 0, 0, 0, 0, .null), (.getfield 125, 11, 70, 0, .null), (.iload_n 3, 3, 0, 0, .null), (.iload 4, 4, 0, 0, .null), (.iastore, 0, 0, 0, .null), (.iload 4, 4, 0, 0, .null), (.ireturn, 0, 0, 0, .null)]
theorem kX11_few_127 : kx_oks kxL_X11 false cX11_few 127 bX11_few_127 = true := by decide +kernel
theorem dX11_few_3 : decode cX11_few 3 = .ok (.invokevirtual 510, 3) := by decide +kernel
theorem dX11_few_69 : decode cX11_few 69 = .ok (.invokestatic 516, 3) := by decide +kernel
theorem dX11_few_84 : decode cX11_few 84 = .ok (.invokestatic 516, 3) := by decide +kernel
theorem dX11_few_96 : decode cX11_few 96 = .ok (.invokevirtual 522, 3) := by decide +kernel
theorem dX11_few_99 : decode cX11_few 99 = .ok (.invokevirtual 525, 3) := by decide +kernel
set_option maxRecDepth 100000 in
set_option maxHeartbeats 4000000 in
theorem ct_X11_few_zn (l : Launch) (G : kx_G) {M : Nat → Int32} {A : Nat → Nat → Int32} {L : Nat → Nat → Int64} {R : kx_P} {sz : Nat} {lf run : Nat → Nat} {pk many days : Nat} (h66 : M 66 = nI days) (hdays : days ≤ 10) (h67 : M 67 = nI many) (hmany : many ≤ 2) (h68 : M 68 = nI pk) (hpk : pk ≤ 4) (hpl : ck_pl A pk lf run) {F : Nat → Int32} (hF : ck_me lf run pk many days F) {t s : Nat} (hvs : ck_vs pk s t) (hday : t = days) (hg : ¬ ck_ag lf run s t pk 0 = true)  : kx_Mn l G sX11_few 4 0 0 [.ref 93, .int (nI t), .int (nI s)] (mW M (va_up A 129 F) L R) sz (fun r P2 s2 => s2 = sz ∧ r = some (.int (nI (ck_fw lf run pk many 0 t s))) ∧ ∃ F2, ck_me lf run pk many days F2 ∧ P2 = mW M (va_up A 129 F2) L R) := by
  have hs1 := ck_vs_lt hpk hvs
  have hs30 : s < 2 ^ 30 := by omega
  have hpl2 : ∀ F, ck_pl (va_up A 129 F) pk lf run := fun _ => hpl
  have zi : (14641 : Int32) * nI t + nI s = nI (14641 * t + s) := ck_i2 14641 t s
  have zp2 := ck_p2 pk hpk
  have zp16 : 2 ^ pk ≤ 16 := Nat.pow_le_pow_right (n := 2) (by decide) hpk
  refine kx_mkn kx_tab kxLok_X11 (ini := false) [some (.ref 93), some (.int (nI t)), some (.int (nI s)), none, none, none, none] ⟨by decide, rfl, by decide, by omega⟩ (fun _ _ _ h => h.2.1 ▸ ⟨_, rfl⟩) rfl rfl (fun g hB hC hN => ?_)
  refine hB bX11_few_0 _ _ _ _ _ _ _ kX11_few_0 ?_
  dsimp only [bX11_few_0, kx_wp, kx_step, kx_lI, kx_lL, kx_lA, kx_gl, kx_pI, kx_pL, kx_pR, kx_pA, kx_pV, kx_s1, kx_s2, kx_sl, kx_pre, kx_c2, kx_pl, kx_cmp, kx_oF, kx_eqN, kx_nil, kx_c1, kx_ft, kx_aI, kx_aL, kx_aR, kx_ln, Nat.reduceAdd, Option.toList, List.cons_append, List.nil_append, mW_o, mf_66, mf_70, m_129, mf_68, mf_67]
  repeat (simp only [ms_129, h66, h67, h68, zi, nI_1, nI_add, zp2, va_us, va_upn, ne_eq, Nat.reduceEqDiff, not_false_eq_true]; try dsimp only [kx_wp, kx_step, kx_lI, kx_lL, kx_lA, kx_gl, kx_pI, kx_pL, kx_pR, kx_pA, kx_pV, kx_s1, kx_s2, kx_sl, kx_pre, kx_c2, kx_pl, kx_cmp, kx_oF, kx_eqN, kx_nil, kx_c1, kx_ft, kx_aI, kx_aL, kx_aR, kx_ln, Nat.reduceAdd, Option.toList, List.cons_append, List.nil_append, mW_o, mf_66, mf_70, m_129, mf_68, mf_67])
  repeat' apply And.intro
  all_goals try (first | with_reducible assumption | (with_reducible refine ck_nzI ?_; simp; done) | (with_reducible refine ck_nzL ?_; simp; done) | (with_reducible refine vp_in_nI ?_ ?_ <;> first | omega | decide) | (with_reducible refine Nat.le_of_ble_eq_true ?_; rfl) | omega)
  refine hC.1 510 _ _ _ _ _ _ _ 11 _ _ _ _ _ _ _ _ _ _ _ _ lX11_510 (ct_X11_areGoing l G (A := va_up A 129 F) h68 hpk hs30 (by omega) (hpl2 F) hvs.2) ⟨by decide, rfl⟩ (mW_o) rfl rfl (Nat.le_of_ble_eq_true rfl) (by omega) (by decide) (by omega) (by omega) dX11_few_3 ?_
  rw [if_neg hg]
  refine hB bX11_few_6 _ _ _ _ _ _ _ kX11_few_6 ?_
  dsimp only [bX11_few_6, kx_wp, kx_step, kx_lI, kx_lL, kx_lA, kx_gl, kx_pI, kx_pL, kx_pR, kx_pA, kx_pV, kx_s1, kx_s2, kx_sl, kx_pre, kx_c2, kx_pl, kx_cmp, kx_oF, kx_eqN, kx_nil, kx_c1, kx_ft, kx_aI, kx_aL, kx_aR, kx_ln, Nat.reduceAdd, Option.toList, List.cons_append, List.nil_append, mW_o, mf_66, mf_70, m_129, mf_68, mf_67]
  repeat (simp only [ms_129, h66, h67, h68, zi, nI_1, nI_add, zp2, va_us, va_upn, ne_eq, Nat.reduceEqDiff, not_false_eq_true]; try dsimp only [kx_wp, kx_step, kx_lI, kx_lL, kx_lA, kx_gl, kx_pI, kx_pL, kx_pR, kx_pA, kx_pV, kx_s1, kx_s2, kx_sl, kx_pre, kx_c2, kx_pl, kx_cmp, kx_oF, kx_eqN, kx_nil, kx_c1, kx_ft, kx_aI, kx_aL, kx_aR, kx_ln, Nat.reduceAdd, Option.toList, List.cons_append, List.nil_append, mW_o, mf_66, mf_70, m_129, mf_68, mf_67])
  repeat' apply And.intro
  all_goals try (first | with_reducible assumption | (with_reducible refine ck_nzI ?_; simp; done) | (with_reducible refine ck_nzL ?_; simp; done) | (with_reducible refine vp_in_nI ?_ ?_ <;> first | omega | decide) | (with_reducible refine Nat.le_of_ble_eq_true ?_; rfl) | omega)
  · intro zc6
    first | exact absurd rfl zc6 | exact absurd zc6 (by decide) | exact absurd (by decide) zc6 | (exfalso; first | exact zc6 rfl | exact absurd zc6 (by decide)) | (exfalso; simp_all; done)
  · intro zc6
    with_reducible first | have ze6 := Decidable.not_not.mp zc6 | have ze6 := zc6
    refine hB bX11_few_9 _ _ _ _ _ _ _ kX11_few_9 ?_
    dsimp only [bX11_few_9, kx_wp, kx_step, kx_lI, kx_lL, kx_lA, kx_gl, kx_pI, kx_pL, kx_pR, kx_pA, kx_pV, kx_s1, kx_s2, kx_sl, kx_pre, kx_c2, kx_pl, kx_cmp, kx_oF, kx_eqN, kx_nil, kx_c1, kx_ft, kx_aI, kx_aL, kx_aR, kx_ln, Nat.reduceAdd, Option.toList, List.cons_append, List.nil_append, mW_o, mf_66, mf_70, m_129, mf_68, mf_67]
    repeat (simp only [ms_129, h66, h67, h68, zi, nI_1, nI_add, zp2, va_us, va_upn, ne_eq, Nat.reduceEqDiff, not_false_eq_true]; try dsimp only [kx_wp, kx_step, kx_lI, kx_lL, kx_lA, kx_gl, kx_pI, kx_pL, kx_pR, kx_pA, kx_pV, kx_s1, kx_s2, kx_sl, kx_pre, kx_c2, kx_pl, kx_cmp, kx_oF, kx_eqN, kx_nil, kx_c1, kx_ft, kx_aI, kx_aL, kx_aR, kx_ln, Nat.reduceAdd, Option.toList, List.cons_append, List.nil_append, mW_o, mf_66, mf_70, m_129, mf_68, mf_67])
    all_goals (repeat' apply And.intro)
    all_goals ((try clear hB hC); first | exact True.intro | with_reducible rfl | exact ⟨_, hF, rfl⟩ | with_reducible assumption | (with_reducible refine vp_in_nI ?_ ?_ <;> first | omega | decide) | (simp only [ck_fw, hg, ↓reduceIte]; done) | (simp only [ck_fw, hg, ↓reduceIte]; rfl) | skip)

set_option maxRecDepth 100000 in
set_option maxHeartbeats 4000000 in
theorem ct_X11_few_sn (l : Launch) (G : kx_G) {M : Nat → Int32} {A : Nat → Nat → Int32} {L : Nat → Nat → Int64} {R : kx_P} {sz : Nat} {lf run : Nat → Nat} {pk many days : Nat} (h66 : M 66 = nI days) (hdays : days ≤ 10) (h67 : M 67 = nI many) (hmany : many ≤ 2) (h68 : M 68 = nI pk) (hpk : pk ≤ 4) (hpl : ck_pl A pk lf run) {F : Nat → Int32} (hF : ck_me lf run pk many days F) {t s : Nat} (hvs : ck_vs pk s t) {n : Nat} (hday : t + (n + 1) = days) (hg : ¬ ck_ag lf run s t pk 0 = true)  : kx_Mn l G sX11_few (n + 5) 0 0 [.ref 93, .int (nI t), .int (nI s)] (mW M (va_up A 129 F) L R) sz (fun r P2 s2 => s2 = sz ∧ r = some (.int (nI (ck_fw lf run pk many (n + 1) t s))) ∧ ∃ F2, ck_me lf run pk many days F2 ∧ P2 = mW M (va_up A 129 F2) L R) := by
  have hs1 := ck_vs_lt hpk hvs
  have hs30 : s < 2 ^ 30 := by omega
  have hpl2 : ∀ F, ck_pl (va_up A 129 F) pk lf run := fun _ => hpl
  have zi : (14641 : Int32) * nI t + nI s = nI (14641 * t + s) := ck_i2 14641 t s
  have zp2 := ck_p2 pk hpk
  have zp16 : 2 ^ pk ≤ 16 := Nat.pow_le_pow_right (n := 2) (by decide) hpk
  refine kx_mkn kx_tab kxLok_X11 (ini := false) [some (.ref 93), some (.int (nI t)), some (.int (nI s)), none, none, none, none] ⟨by decide, rfl, by decide, by omega⟩ (fun _ _ _ h => h.2.1 ▸ ⟨_, rfl⟩) rfl rfl (fun g hB hC hN => ?_)
  refine hB bX11_few_0 _ _ _ _ _ _ _ kX11_few_0 ?_
  dsimp only [bX11_few_0, kx_wp, kx_step, kx_lI, kx_lL, kx_lA, kx_gl, kx_pI, kx_pL, kx_pR, kx_pA, kx_pV, kx_s1, kx_s2, kx_sl, kx_pre, kx_c2, kx_pl, kx_cmp, kx_oF, kx_eqN, kx_nil, kx_c1, kx_ft, kx_aI, kx_aL, kx_aR, kx_ln, Nat.reduceAdd, Option.toList, List.cons_append, List.nil_append, mW_o, mf_66, mf_70, m_129, mf_68, mf_67]
  repeat (simp only [ms_129, h66, h67, h68, zi, nI_1, nI_add, zp2, va_us, va_upn, ne_eq, Nat.reduceEqDiff, not_false_eq_true]; try dsimp only [kx_wp, kx_step, kx_lI, kx_lL, kx_lA, kx_gl, kx_pI, kx_pL, kx_pR, kx_pA, kx_pV, kx_s1, kx_s2, kx_sl, kx_pre, kx_c2, kx_pl, kx_cmp, kx_oF, kx_eqN, kx_nil, kx_c1, kx_ft, kx_aI, kx_aL, kx_aR, kx_ln, Nat.reduceAdd, Option.toList, List.cons_append, List.nil_append, mW_o, mf_66, mf_70, m_129, mf_68, mf_67])
  repeat' apply And.intro
  all_goals try (first | with_reducible assumption | (with_reducible refine ck_nzI ?_; simp; done) | (with_reducible refine ck_nzL ?_; simp; done) | (with_reducible refine vp_in_nI ?_ ?_ <;> first | omega | decide) | (with_reducible refine Nat.le_of_ble_eq_true ?_; rfl) | omega)
  refine hC.1 510 _ _ _ _ _ _ _ 11 _ _ _ _ _ _ _ _ _ _ _ _ lX11_510 (ct_X11_areGoing l G (A := va_up A 129 F) h68 hpk hs30 (by omega) (hpl2 F) hvs.2) ⟨by decide, rfl⟩ (mW_o) rfl rfl (Nat.le_of_ble_eq_true rfl) (by omega) (by decide) (by omega) (by omega) dX11_few_3 ?_
  rw [if_neg hg]
  refine hB bX11_few_6 _ _ _ _ _ _ _ kX11_few_6 ?_
  dsimp only [bX11_few_6, kx_wp, kx_step, kx_lI, kx_lL, kx_lA, kx_gl, kx_pI, kx_pL, kx_pR, kx_pA, kx_pV, kx_s1, kx_s2, kx_sl, kx_pre, kx_c2, kx_pl, kx_cmp, kx_oF, kx_eqN, kx_nil, kx_c1, kx_ft, kx_aI, kx_aL, kx_aR, kx_ln, Nat.reduceAdd, Option.toList, List.cons_append, List.nil_append, mW_o, mf_66, mf_70, m_129, mf_68, mf_67]
  repeat (simp only [ms_129, h66, h67, h68, zi, nI_1, nI_add, zp2, va_us, va_upn, ne_eq, Nat.reduceEqDiff, not_false_eq_true]; try dsimp only [kx_wp, kx_step, kx_lI, kx_lL, kx_lA, kx_gl, kx_pI, kx_pL, kx_pR, kx_pA, kx_pV, kx_s1, kx_s2, kx_sl, kx_pre, kx_c2, kx_pl, kx_cmp, kx_oF, kx_eqN, kx_nil, kx_c1, kx_ft, kx_aI, kx_aL, kx_aR, kx_ln, Nat.reduceAdd, Option.toList, List.cons_append, List.nil_append, mW_o, mf_66, mf_70, m_129, mf_68, mf_67])
  repeat' apply And.intro
  all_goals try (first | with_reducible assumption | (with_reducible refine ck_nzI ?_; simp; done) | (with_reducible refine ck_nzL ?_; simp; done) | (with_reducible refine vp_in_nI ?_ ?_ <;> first | omega | decide) | (with_reducible refine Nat.le_of_ble_eq_true ?_; rfl) | omega)
  · intro zc6
    first | exact absurd rfl zc6 | exact absurd zc6 (by decide) | exact absurd (by decide) zc6 | (exfalso; first | exact zc6 rfl | exact absurd zc6 (by decide)) | (exfalso; simp_all; done)
  · intro zc6
    with_reducible first | have ze6 := Decidable.not_not.mp zc6 | have ze6 := zc6
    refine hB bX11_few_9 _ _ _ _ _ _ _ kX11_few_9 ?_
    dsimp only [bX11_few_9, kx_wp, kx_step, kx_lI, kx_lL, kx_lA, kx_gl, kx_pI, kx_pL, kx_pR, kx_pA, kx_pV, kx_s1, kx_s2, kx_sl, kx_pre, kx_c2, kx_pl, kx_cmp, kx_oF, kx_eqN, kx_nil, kx_c1, kx_ft, kx_aI, kx_aL, kx_aR, kx_ln, Nat.reduceAdd, Option.toList, List.cons_append, List.nil_append, mW_o, mf_66, mf_70, m_129, mf_68, mf_67]
    repeat (simp only [ms_129, h66, h67, h68, zi, nI_1, nI_add, zp2, va_us, va_upn, ne_eq, Nat.reduceEqDiff, not_false_eq_true]; try dsimp only [kx_wp, kx_step, kx_lI, kx_lL, kx_lA, kx_gl, kx_pI, kx_pL, kx_pR, kx_pA, kx_pV, kx_s1, kx_s2, kx_sl, kx_pre, kx_c2, kx_pl, kx_cmp, kx_oF, kx_eqN, kx_nil, kx_c1, kx_ft, kx_aI, kx_aL, kx_aR, kx_ln, Nat.reduceAdd, Option.toList, List.cons_append, List.nil_append, mW_o, mf_66, mf_70, m_129, mf_68, mf_67])
    all_goals (repeat' apply And.intro)
    all_goals ((try clear hB hC); first | exact True.intro | with_reducible rfl | exact ⟨_, hF, rfl⟩ | with_reducible assumption | (with_reducible refine vp_in_nI ?_ ?_ <;> first | omega | decide) | (simp only [ck_fw, hg, ↓reduceIte]; done) | (simp only [ck_fw, hg, ↓reduceIte]; rfl) | skip)

set_option maxRecDepth 100000 in
set_option maxHeartbeats 4000000 in
theorem ct_X11_few_zg (l : Launch) (G : kx_G) {M : Nat → Int32} {A : Nat → Nat → Int32} {L : Nat → Nat → Int64} {R : kx_P} {sz : Nat} {lf run : Nat → Nat} {pk many days : Nat} (h66 : M 66 = nI days) (hdays : days ≤ 10) (h67 : M 67 = nI many) (hmany : many ≤ 2) (h68 : M 68 = nI pk) (hpk : pk ≤ 4) (hpl : ck_pl A pk lf run) {F : Nat → Int32} (hF : ck_me lf run pk many days F) {t s : Nat} (hvs : ck_vs pk s t) (hday : t = days) (hg : ck_ag lf run s t pk 0 = true)  : kx_Mn l G sX11_few 4 0 0 [.ref 93, .int (nI t), .int (nI s)] (mW M (va_up A 129 F) L R) sz (fun r P2 s2 => s2 = sz ∧ r = some (.int (nI (ck_fw lf run pk many 0 t s))) ∧ ∃ F2, ck_me lf run pk many days F2 ∧ P2 = mW M (va_up A 129 F2) L R) := by
  have hs1 := ck_vs_lt hpk hvs
  have hs30 : s < 2 ^ 30 := by omega
  have hpl2 : ∀ F, ck_pl (va_up A 129 F) pk lf run := fun _ => hpl
  have zi : (14641 : Int32) * nI t + nI s = nI (14641 * t + s) := ck_i2 14641 t s
  have zp2 := ck_p2 pk hpk
  have zp16 : 2 ^ pk ≤ 16 := Nat.pow_le_pow_right (n := 2) (by decide) hpk
  refine kx_mkn kx_tab kxLok_X11 (ini := false) [some (.ref 93), some (.int (nI t)), some (.int (nI s)), none, none, none, none] ⟨by decide, rfl, by decide, by omega⟩ (fun _ _ _ h => h.2.1 ▸ ⟨_, rfl⟩) rfl rfl (fun g hB hC hN => ?_)
  refine hB bX11_few_0 _ _ _ _ _ _ _ kX11_few_0 ?_
  dsimp only [bX11_few_0, kx_wp, kx_step, kx_lI, kx_lL, kx_lA, kx_gl, kx_pI, kx_pL, kx_pR, kx_pA, kx_pV, kx_s1, kx_s2, kx_sl, kx_pre, kx_c2, kx_pl, kx_cmp, kx_oF, kx_eqN, kx_nil, kx_c1, kx_ft, kx_aI, kx_aL, kx_aR, kx_ln, Nat.reduceAdd, Option.toList, List.cons_append, List.nil_append, mW_o, mf_66, mf_70, m_129, mf_68, mf_67]
  repeat (simp only [ms_129, h66, h67, h68, zi, nI_1, nI_add, zp2, va_us, va_upn, ne_eq, Nat.reduceEqDiff, not_false_eq_true]; try dsimp only [kx_wp, kx_step, kx_lI, kx_lL, kx_lA, kx_gl, kx_pI, kx_pL, kx_pR, kx_pA, kx_pV, kx_s1, kx_s2, kx_sl, kx_pre, kx_c2, kx_pl, kx_cmp, kx_oF, kx_eqN, kx_nil, kx_c1, kx_ft, kx_aI, kx_aL, kx_aR, kx_ln, Nat.reduceAdd, Option.toList, List.cons_append, List.nil_append, mW_o, mf_66, mf_70, m_129, mf_68, mf_67])
  repeat' apply And.intro
  all_goals try (first | with_reducible assumption | (with_reducible refine ck_nzI ?_; simp; done) | (with_reducible refine ck_nzL ?_; simp; done) | (with_reducible refine vp_in_nI ?_ ?_ <;> first | omega | decide) | (with_reducible refine Nat.le_of_ble_eq_true ?_; rfl) | omega)
  refine hC.1 510 _ _ _ _ _ _ _ 11 _ _ _ _ _ _ _ _ _ _ _ _ lX11_510 (ct_X11_areGoing l G (A := va_up A 129 F) h68 hpk hs30 (by omega) (hpl2 F) hvs.2) ⟨by decide, rfl⟩ (mW_o) rfl rfl (Nat.le_of_ble_eq_true rfl) (by omega) (by decide) (by omega) (by omega) dX11_few_3 ?_
  rw [if_pos hg]
  refine hB bX11_few_6 _ _ _ _ _ _ _ kX11_few_6 ?_
  dsimp only [bX11_few_6, kx_wp, kx_step, kx_lI, kx_lL, kx_lA, kx_gl, kx_pI, kx_pL, kx_pR, kx_pA, kx_pV, kx_s1, kx_s2, kx_sl, kx_pre, kx_c2, kx_pl, kx_cmp, kx_oF, kx_eqN, kx_nil, kx_c1, kx_ft, kx_aI, kx_aL, kx_aR, kx_ln, Nat.reduceAdd, Option.toList, List.cons_append, List.nil_append, mW_o, mf_66, mf_70, m_129, mf_68, mf_67]
  repeat (simp only [ms_129, h66, h67, h68, zi, nI_1, nI_add, zp2, va_us, va_upn, ne_eq, Nat.reduceEqDiff, not_false_eq_true]; try dsimp only [kx_wp, kx_step, kx_lI, kx_lL, kx_lA, kx_gl, kx_pI, kx_pL, kx_pR, kx_pA, kx_pV, kx_s1, kx_s2, kx_sl, kx_pre, kx_c2, kx_pl, kx_cmp, kx_oF, kx_eqN, kx_nil, kx_c1, kx_ft, kx_aI, kx_aL, kx_aR, kx_ln, Nat.reduceAdd, Option.toList, List.cons_append, List.nil_append, mW_o, mf_66, mf_70, m_129, mf_68, mf_67])
  repeat' apply And.intro
  all_goals try (first | with_reducible assumption | (with_reducible refine ck_nzI ?_; simp; done) | (with_reducible refine ck_nzL ?_; simp; done) | (with_reducible refine vp_in_nI ?_ ?_ <;> first | omega | decide) | (with_reducible refine Nat.le_of_ble_eq_true ?_; rfl) | omega)
  · intro zc6
    have ze6 := zc6
    refine hB bX11_few_13 _ _ _ _ _ _ _ kX11_few_13 ?_
    dsimp only [bX11_few_13, kx_wp, kx_step, kx_lI, kx_lL, kx_lA, kx_gl, kx_pI, kx_pL, kx_pR, kx_pA, kx_pV, kx_s1, kx_s2, kx_sl, kx_pre, kx_c2, kx_pl, kx_cmp, kx_oF, kx_eqN, kx_nil, kx_c1, kx_ft, kx_aI, kx_aL, kx_aR, kx_ln, Nat.reduceAdd, Option.toList, List.cons_append, List.nil_append, mW_o, mf_66, mf_70, m_129, mf_68, mf_67]
    repeat (simp only [ms_129, h66, h67, h68, zi, nI_1, nI_add, zp2, va_us, va_upn, ne_eq, Nat.reduceEqDiff, not_false_eq_true]; try dsimp only [kx_wp, kx_step, kx_lI, kx_lL, kx_lA, kx_gl, kx_pI, kx_pL, kx_pR, kx_pA, kx_pV, kx_s1, kx_s2, kx_sl, kx_pre, kx_c2, kx_pl, kx_cmp, kx_oF, kx_eqN, kx_nil, kx_c1, kx_ft, kx_aI, kx_aL, kx_aR, kx_ln, Nat.reduceAdd, Option.toList, List.cons_append, List.nil_append, mW_o, mf_66, mf_70, m_129, mf_68, mf_67])
    repeat' apply And.intro
    all_goals try (first | with_reducible assumption | (with_reducible refine ck_nzI ?_; simp; done) | (with_reducible refine ck_nzL ?_; simp; done) | (with_reducible refine vp_in_nI ?_ ?_ <;> first | omega | decide) | (with_reducible refine Nat.le_of_ble_eq_true ?_; rfl) | omega)
    · intro zc18
      first | exact absurd rfl zc18 | exact absurd zc18 (by decide) | exact absurd (by decide) zc18 | (exfalso; first | exact zc6 rfl | exact absurd zc6 (by decide) | exact zc18 (congrArg nI hday) | exact absurd (congrArg nI hday) zc18) | (exfalso; simp_all; done)
    · intro zc18
      with_reducible first | have ze18 := Decidable.not_not.mp zc18 | have ze18 := zc18
      refine hB bX11_few_21 _ _ _ _ _ _ _ kX11_few_21 ?_
      dsimp only [bX11_few_21, kx_wp, kx_step, kx_lI, kx_lL, kx_lA, kx_gl, kx_pI, kx_pL, kx_pR, kx_pA, kx_pV, kx_s1, kx_s2, kx_sl, kx_pre, kx_c2, kx_pl, kx_cmp, kx_oF, kx_eqN, kx_nil, kx_c1, kx_ft, kx_aI, kx_aL, kx_aR, kx_ln, Nat.reduceAdd, Option.toList, List.cons_append, List.nil_append, mW_o, mf_66, mf_70, m_129, mf_68, mf_67]
      repeat (simp only [ms_129, h66, h67, h68, zi, nI_1, nI_add, zp2, va_us, va_upn, ne_eq, Nat.reduceEqDiff, not_false_eq_true]; try dsimp only [kx_wp, kx_step, kx_lI, kx_lL, kx_lA, kx_gl, kx_pI, kx_pL, kx_pR, kx_pA, kx_pV, kx_s1, kx_s2, kx_sl, kx_pre, kx_c2, kx_pl, kx_cmp, kx_oF, kx_eqN, kx_nil, kx_c1, kx_ft, kx_aI, kx_aL, kx_aR, kx_ln, Nat.reduceAdd, Option.toList, List.cons_append, List.nil_append, mW_o, mf_66, mf_70, m_129, mf_68, mf_67])
      all_goals (repeat' apply And.intro)
      all_goals ((try clear hB hC); first | exact True.intro | with_reducible rfl | exact ⟨_, hF, rfl⟩ | with_reducible assumption | (with_reducible refine vp_in_nI ?_ ?_ <;> first | omega | decide) | (simp only [ck_fw, hg, ↓reduceIte]; done) | (simp only [ck_fw, hg, ↓reduceIte]; rfl) | skip)
  · intro zc6
    first | exact absurd rfl zc6 | exact absurd zc6 (by decide) | exact absurd (by decide) zc6 | (exfalso; first | exact zc6 rfl | exact absurd zc6 (by decide) | exact zc18 (congrArg nI hday) | exact absurd (congrArg nI hday) zc18) | (exfalso; simp_all; done)

set_option maxRecDepth 100000 in
set_option maxHeartbeats 4000000 in
theorem ct_X11_few_m (l : Launch) (G : kx_G) {M : Nat → Int32} {A : Nat → Nat → Int32} {L : Nat → Nat → Int64} {R : kx_P} {sz : Nat} {lf run : Nat → Nat} {pk many days : Nat} (h66 : M 66 = nI days) (hdays : days ≤ 10) (h67 : M 67 = nI many) (hmany : many ≤ 2) (h68 : M 68 = nI pk) (hpk : pk ≤ 4) (hpl : ck_pl A pk lf run) {F : Nat → Int32} (hF : ck_me lf run pk many days F) {t s : Nat} (hvs : ck_vs pk s t) {n : Nat} (hday : t + (n + 1) = days) (hg : ck_ag lf run s t pk 0 = true) (hm : ¬ F (14641 * t + s) = -1)  : kx_Mn l G sX11_few (n + 5) 0 0 [.ref 93, .int (nI t), .int (nI s)] (mW M (va_up A 129 F) L R) sz (fun r P2 s2 => s2 = sz ∧ r = some (.int (nI (ck_fw lf run pk many (n + 1) t s))) ∧ ∃ F2, ck_me lf run pk many days F2 ∧ P2 = mW M (va_up A 129 F2) L R) := by
  have hs1 := ck_vs_lt hpk hvs
  have hs30 : s < 2 ^ 30 := by omega
  have hpl2 : ∀ F, ck_pl (va_up A 129 F) pk lf run := fun _ => hpl
  have zi : (14641 : Int32) * nI t + nI s = nI (14641 * t + s) := ck_i2 14641 t s
  have zp2 := ck_p2 pk hpk
  have zp16 : 2 ^ pk ≤ 16 := Nat.pow_le_pow_right (n := 2) (by decide) hpk
  refine kx_mkn kx_tab kxLok_X11 (ini := false) [some (.ref 93), some (.int (nI t)), some (.int (nI s)), none, none, none, none] ⟨by decide, rfl, by decide, by omega⟩ (fun _ _ _ h => h.2.1 ▸ ⟨_, rfl⟩) rfl rfl (fun g hB hC hN => ?_)
  have hmv := (hF t s (by omega) hs1).resolve_left hm
  rw [show days - t = n + 1 by omega] at hmv
  refine hB bX11_few_0 _ _ _ _ _ _ _ kX11_few_0 ?_
  dsimp only [bX11_few_0, kx_wp, kx_step, kx_lI, kx_lL, kx_lA, kx_gl, kx_pI, kx_pL, kx_pR, kx_pA, kx_pV, kx_s1, kx_s2, kx_sl, kx_pre, kx_c2, kx_pl, kx_cmp, kx_oF, kx_eqN, kx_nil, kx_c1, kx_ft, kx_aI, kx_aL, kx_aR, kx_ln, Nat.reduceAdd, Option.toList, List.cons_append, List.nil_append, mW_o, mf_66, mf_70, m_129, mf_68, mf_67]
  repeat (simp only [ms_129, h66, h67, h68, zi, nI_1, nI_add, zp2, va_us, va_upn, ne_eq, Nat.reduceEqDiff, not_false_eq_true, nI_clamp (show 14641 * t + s < 2 ^ 31 by omega)]; try dsimp only [kx_wp, kx_step, kx_lI, kx_lL, kx_lA, kx_gl, kx_pI, kx_pL, kx_pR, kx_pA, kx_pV, kx_s1, kx_s2, kx_sl, kx_pre, kx_c2, kx_pl, kx_cmp, kx_oF, kx_eqN, kx_nil, kx_c1, kx_ft, kx_aI, kx_aL, kx_aR, kx_ln, Nat.reduceAdd, Option.toList, List.cons_append, List.nil_append, mW_o, mf_66, mf_70, m_129, mf_68, mf_67])
  repeat' apply And.intro
  all_goals try (first | with_reducible assumption | (with_reducible refine ck_nzI ?_; simp; done) | (with_reducible refine ck_nzL ?_; simp; done) | (with_reducible refine vp_in_nI ?_ ?_ <;> first | omega | decide) | (with_reducible refine Nat.le_of_ble_eq_true ?_; rfl) | omega)
  refine hC.1 510 _ _ _ _ _ _ _ 11 _ _ _ _ _ _ _ _ _ _ _ _ lX11_510 (ct_X11_areGoing l G (A := va_up A 129 F) h68 hpk hs30 (by omega) (hpl2 F) hvs.2) ⟨by decide, rfl⟩ (mW_o) rfl rfl (Nat.le_of_ble_eq_true rfl) (by omega) (by decide) (by omega) (by omega) dX11_few_3 ?_
  rw [if_pos hg]
  refine hB bX11_few_6 _ _ _ _ _ _ _ kX11_few_6 ?_
  dsimp only [bX11_few_6, kx_wp, kx_step, kx_lI, kx_lL, kx_lA, kx_gl, kx_pI, kx_pL, kx_pR, kx_pA, kx_pV, kx_s1, kx_s2, kx_sl, kx_pre, kx_c2, kx_pl, kx_cmp, kx_oF, kx_eqN, kx_nil, kx_c1, kx_ft, kx_aI, kx_aL, kx_aR, kx_ln, Nat.reduceAdd, Option.toList, List.cons_append, List.nil_append, mW_o, mf_66, mf_70, m_129, mf_68, mf_67]
  repeat (simp only [ms_129, h66, h67, h68, zi, nI_1, nI_add, zp2, va_us, va_upn, ne_eq, Nat.reduceEqDiff, not_false_eq_true, nI_clamp (show 14641 * t + s < 2 ^ 31 by omega)]; try dsimp only [kx_wp, kx_step, kx_lI, kx_lL, kx_lA, kx_gl, kx_pI, kx_pL, kx_pR, kx_pA, kx_pV, kx_s1, kx_s2, kx_sl, kx_pre, kx_c2, kx_pl, kx_cmp, kx_oF, kx_eqN, kx_nil, kx_c1, kx_ft, kx_aI, kx_aL, kx_aR, kx_ln, Nat.reduceAdd, Option.toList, List.cons_append, List.nil_append, mW_o, mf_66, mf_70, m_129, mf_68, mf_67])
  repeat' apply And.intro
  all_goals try (first | with_reducible assumption | (with_reducible refine ck_nzI ?_; simp; done) | (with_reducible refine ck_nzL ?_; simp; done) | (with_reducible refine vp_in_nI ?_ ?_ <;> first | omega | decide) | (with_reducible refine Nat.le_of_ble_eq_true ?_; rfl) | omega)
  · intro zc6
    have ze6 := zc6
    refine hB bX11_few_13 _ _ _ _ _ _ _ kX11_few_13 ?_
    dsimp only [bX11_few_13, kx_wp, kx_step, kx_lI, kx_lL, kx_lA, kx_gl, kx_pI, kx_pL, kx_pR, kx_pA, kx_pV, kx_s1, kx_s2, kx_sl, kx_pre, kx_c2, kx_pl, kx_cmp, kx_oF, kx_eqN, kx_nil, kx_c1, kx_ft, kx_aI, kx_aL, kx_aR, kx_ln, Nat.reduceAdd, Option.toList, List.cons_append, List.nil_append, mW_o, mf_66, mf_70, m_129, mf_68, mf_67]
    repeat (simp only [ms_129, h66, h67, h68, zi, nI_1, nI_add, zp2, va_us, va_upn, ne_eq, Nat.reduceEqDiff, not_false_eq_true, nI_clamp (show 14641 * t + s < 2 ^ 31 by omega)]; try dsimp only [kx_wp, kx_step, kx_lI, kx_lL, kx_lA, kx_gl, kx_pI, kx_pL, kx_pR, kx_pA, kx_pV, kx_s1, kx_s2, kx_sl, kx_pre, kx_c2, kx_pl, kx_cmp, kx_oF, kx_eqN, kx_nil, kx_c1, kx_ft, kx_aI, kx_aL, kx_aR, kx_ln, Nat.reduceAdd, Option.toList, List.cons_append, List.nil_append, mW_o, mf_66, mf_70, m_129, mf_68, mf_67])
    repeat' apply And.intro
    all_goals try (first | with_reducible assumption | (with_reducible refine ck_nzI ?_; simp; done) | (with_reducible refine ck_nzL ?_; simp; done) | (with_reducible refine vp_in_nI ?_ ?_ <;> first | omega | decide) | (with_reducible refine Nat.le_of_ble_eq_true ?_; rfl) | omega)
    · intro zc18
      have ze18 := zc18
      refine hB bX11_few_23 _ _ _ _ _ _ _ kX11_few_23 ?_
      dsimp only [bX11_few_23, kx_wp, kx_step, kx_lI, kx_lL, kx_lA, kx_gl, kx_pI, kx_pL, kx_pR, kx_pA, kx_pV, kx_s1, kx_s2, kx_sl, kx_pre, kx_c2, kx_pl, kx_cmp, kx_oF, kx_eqN, kx_nil, kx_c1, kx_ft, kx_aI, kx_aL, kx_aR, kx_ln, Nat.reduceAdd, Option.toList, List.cons_append, List.nil_append, mW_o, mf_66, mf_70, m_129, mf_68, mf_67]
      repeat (simp only [ms_129, h66, h67, h68, zi, nI_1, nI_add, zp2, va_us, va_upn, ne_eq, Nat.reduceEqDiff, not_false_eq_true, nI_clamp (show 14641 * t + s < 2 ^ 31 by omega)]; try dsimp only [kx_wp, kx_step, kx_lI, kx_lL, kx_lA, kx_gl, kx_pI, kx_pL, kx_pR, kx_pA, kx_pV, kx_s1, kx_s2, kx_sl, kx_pre, kx_c2, kx_pl, kx_cmp, kx_oF, kx_eqN, kx_nil, kx_c1, kx_ft, kx_aI, kx_aL, kx_aR, kx_ln, Nat.reduceAdd, Option.toList, List.cons_append, List.nil_append, mW_o, mf_66, mf_70, m_129, mf_68, mf_67])
      repeat' apply And.intro
      all_goals try (first | with_reducible assumption | (with_reducible refine ck_nzI ?_; simp; done) | (with_reducible refine ck_nzL ?_; simp; done) | (with_reducible refine vp_in_nI ?_ ?_ <;> first | omega | decide) | (with_reducible refine Nat.le_of_ble_eq_true ?_; rfl) | omega)
      · intro zc38
        first | exact absurd rfl zc38 | exact absurd zc38 (by decide) | exact absurd (by decide) zc38 | (exfalso; first | exact zc6 rfl | exact absurd zc6 (by decide) | exact absurd ((nI_eq (by omega) (by omega)).mp zc18) (by omega) | exact absurd ((nI_eq (by omega) (by omega)).mp (Decidable.not_not.mp zc18)) (by omega) | exact hm zc38 | exact hm (Decidable.not_not.mp zc38)) | (exfalso; simp_all; done)
      · intro zc38
        have ze38 := zc38
        refine hB bX11_few_41 _ _ _ _ _ _ _ kX11_few_41 ?_
        dsimp only [bX11_few_41, kx_wp, kx_step, kx_lI, kx_lL, kx_lA, kx_gl, kx_pI, kx_pL, kx_pR, kx_pA, kx_pV, kx_s1, kx_s2, kx_sl, kx_pre, kx_c2, kx_pl, kx_cmp, kx_oF, kx_eqN, kx_nil, kx_c1, kx_ft, kx_aI, kx_aL, kx_aR, kx_ln, Nat.reduceAdd, Option.toList, List.cons_append, List.nil_append, mW_o, mf_66, mf_70, m_129, mf_68, mf_67]
        repeat (simp only [ms_129, h66, h67, h68, zi, nI_1, nI_add, zp2, va_us, va_upn, ne_eq, Nat.reduceEqDiff, not_false_eq_true, nI_clamp (show 14641 * t + s < 2 ^ 31 by omega)]; try dsimp only [kx_wp, kx_step, kx_lI, kx_lL, kx_lA, kx_gl, kx_pI, kx_pL, kx_pR, kx_pA, kx_pV, kx_s1, kx_s2, kx_sl, kx_pre, kx_c2, kx_pl, kx_cmp, kx_oF, kx_eqN, kx_nil, kx_c1, kx_ft, kx_aI, kx_aL, kx_aR, kx_ln, Nat.reduceAdd, Option.toList, List.cons_append, List.nil_append, mW_o, mf_66, mf_70, m_129, mf_68, mf_67])
        all_goals (repeat' apply And.intro)
        all_goals ((try clear hB hC); first | exact True.intro | with_reducible rfl | exact ⟨_, hF, rfl⟩ | with_reducible assumption | (with_reducible refine vp_in_nI ?_ ?_ <;> first | omega | decide) | (simp only [ck_fw, hg, ↓reduceIte]; done) | (simp only [ck_fw, hg, ↓reduceIte]; rfl) | exact congrArg (fun z => some (Value.int z)) hmv | skip)
    · intro zc18
      first | exact absurd rfl zc18 | exact absurd zc18 (by decide) | exact absurd (by decide) zc18 | (exfalso; first | exact zc6 rfl | exact absurd zc6 (by decide) | exact absurd ((nI_eq (by omega) (by omega)).mp zc18) (by omega) | exact absurd ((nI_eq (by omega) (by omega)).mp (Decidable.not_not.mp zc18)) (by omega) | exact hm zc38 | exact hm (Decidable.not_not.mp zc38)) | (exfalso; simp_all; done)
  · intro zc6
    first | exact absurd rfl zc6 | exact absurd zc6 (by decide) | exact absurd (by decide) zc6 | (exfalso; first | exact zc6 rfl | exact absurd zc6 (by decide) | exact absurd ((nI_eq (by omega) (by omega)).mp zc18) (by omega) | exact absurd ((nI_eq (by omega) (by omega)).mp (Decidable.not_not.mp zc18)) (by omega) | exact hm zc38 | exact hm (Decidable.not_not.mp zc38)) | (exfalso; simp_all; done)

set_option maxRecDepth 100000 in
set_option maxHeartbeats 4000000 in
theorem ct_X11_few_s (l : Launch) (G : kx_G) {M : Nat → Int32} {A : Nat → Nat → Int32} {L : Nat → Nat → Int64} {R : kx_P} {sz : Nat} {lf run : Nat → Nat} {pk many days : Nat} (h66 : M 66 = nI days) (hdays : days ≤ 10) (h67 : M 67 = nI many) (hmany : many ≤ 2) (h68 : M 68 = nI pk) (hpk : pk ≤ 4) (hpl : ck_pl A pk lf run) {F : Nat → Int32} (hF : ck_me lf run pk many days F) {t s : Nat} (hvs : ck_vs pk s t) {n : Nat} (hday : t + (n + 1) = days) (hg : ck_ag lf run s t pk 0 = true) (hm : F (14641 * t + s) = -1) (IH : ∀ (F : Nat → Int32) (t s : Nat), ck_me lf run pk many days F → t + n = days → ck_vs pk s t → kx_Mn l G sX11_few (n + 4) 0 0 [.ref 93, .int (nI t), .int (nI s)] (mW M (va_up A 129 F) L R) sz (fun r P2 s2 => s2 = sz ∧ r = some (.int (nI (ck_fw lf run pk many n t s))) ∧ ∃ F2, ck_me lf run pk many days F2 ∧ P2 = mW M (va_up A 129 F2) L R))  : kx_Mn l G sX11_few (n + 5) 0 0 [.ref 93, .int (nI t), .int (nI s)] (mW M (va_up A 129 F) L R) sz (fun r P2 s2 => s2 = sz ∧ r = some (.int (nI (ck_fw lf run pk many (n + 1) t s))) ∧ ∃ F2, ck_me lf run pk many days F2 ∧ P2 = mW M (va_up A 129 F2) L R) := by
  have hs1 := ck_vs_lt hpk hvs
  have hs30 : s < 2 ^ 30 := by omega
  have hpl2 : ∀ F, ck_pl (va_up A 129 F) pk lf run := fun _ => hpl
  have zi : (14641 : Int32) * nI t + nI s = nI (14641 * t + s) := ck_i2 14641 t s
  have zp2 := ck_p2 pk hpk
  have zp16 : 2 ^ pk ≤ 16 := Nat.pow_le_pow_right (n := 2) (by decide) hpk
  refine kx_mkn kx_tab kxLok_X11 (ini := false) [some (.ref 93), some (.int (nI t)), some (.int (nI s)), none, none, none, none] ⟨by decide, rfl, by decide, by omega⟩ (fun _ _ _ h => h.2.1 ▸ ⟨_, rfl⟩) rfl rfl (fun g hB hC hN => ?_)
  have zfw : ck_fw lf run pk many (n + 1) t s = ck_fm (fun w => ck_fw lf run pk many n (t + 1) (ck_wd s w t pk)) many (2 ^ pk) := by rw [ck_fw, if_pos hg]
  have hm0 := hm
  have loop56 : ∀ (n9 w : Nat) (F : Nat → Int32) (x6 : Option Value), w + n9 = 2 ^ pk → ck_me lf run pk many days F → g 56 [some (.ref 93), some (.int (nI t)), some (.int (nI s)), some (.int (nI (14641 * t + s))), some (.int (nI (ck_fm (fun w => ck_fw lf run pk many n (t + 1) (ck_wd s w t pk)) many w))), some (.int (nI (w))), x6] [] (mW M (va_up A 129 F) L R) sz 0 0 := by
    intro n9
    induction n9 with
    | zero =>
      intro w F x6 hw hF
      obtain rfl : 2 ^ pk = w := by omega
      refine hB bX11_few_56 _ _ _ _ _ _ _ kX11_few_56 ?_
      dsimp only [bX11_few_56, kx_wp, kx_step, kx_lI, kx_lL, kx_lA, kx_gl, kx_pI, kx_pL, kx_pR, kx_pA, kx_pV, kx_s1, kx_s2, kx_sl, kx_pre, kx_c2, kx_pl, kx_cmp, kx_oF, kx_eqN, kx_nil, kx_c1, kx_ft, kx_aI, kx_aL, kx_aR, kx_ln, Nat.reduceAdd, Option.toList, List.cons_append, List.nil_append, mW_o, mf_66, mf_70, m_129, mf_68, mf_67]
      repeat (simp only [ms_129, h66, h67, h68, zi, nI_1, nI_add, zp2, va_us, va_upn, ne_eq, Nat.reduceEqDiff, not_false_eq_true, va_upup, nI_clamp (show 14641 * t + s < 2 ^ 31 by omega)]; try dsimp only [kx_wp, kx_step, kx_lI, kx_lL, kx_lA, kx_gl, kx_pI, kx_pL, kx_pR, kx_pA, kx_pV, kx_s1, kx_s2, kx_sl, kx_pre, kx_c2, kx_pl, kx_cmp, kx_oF, kx_eqN, kx_nil, kx_c1, kx_ft, kx_aI, kx_aL, kx_aR, kx_ln, Nat.reduceAdd, Option.toList, List.cons_append, List.nil_append, mW_o, mf_66, mf_70, m_129, mf_68, mf_67])
      repeat' apply And.intro
      all_goals try (first | with_reducible assumption | (with_reducible refine ck_nzI ?_; simp; done) | (with_reducible refine ck_nzL ?_; simp; done) | (with_reducible refine vp_in_nI ?_ ?_ <;> first | omega | decide) | (with_reducible refine Nat.le_of_ble_eq_true ?_; rfl) | omega)
      · intro zc64
        with_reducible first | have ze64 := Int32.not_lt.mpr zc64 | have ze64 := zc64
        refine hB bX11_few_127 _ _ _ _ _ _ _ kX11_few_127 ?_
        dsimp only [bX11_few_127, kx_wp, kx_step, kx_lI, kx_lL, kx_lA, kx_gl, kx_pI, kx_pL, kx_pR, kx_pA, kx_pV, kx_s1, kx_s2, kx_sl, kx_pre, kx_c2, kx_pl, kx_cmp, kx_oF, kx_eqN, kx_nil, kx_c1, kx_ft, kx_aI, kx_aL, kx_aR, kx_ln, Nat.reduceAdd, Option.toList, List.cons_append, List.nil_append, mW_o, mf_66, mf_70, m_129, mf_68, mf_67]
        repeat (simp only [ms_129, h66, h67, h68, zi, nI_1, nI_add, zp2, va_us, va_upn, ne_eq, Nat.reduceEqDiff, not_false_eq_true, va_upup, nI_clamp (show 14641 * t + s < 2 ^ 31 by omega)]; try dsimp only [kx_wp, kx_step, kx_lI, kx_lL, kx_lA, kx_gl, kx_pI, kx_pL, kx_pR, kx_pA, kx_pV, kx_s1, kx_s2, kx_sl, kx_pre, kx_c2, kx_pl, kx_cmp, kx_oF, kx_eqN, kx_nil, kx_c1, kx_ft, kx_aI, kx_aL, kx_aR, kx_ln, Nat.reduceAdd, Option.toList, List.cons_append, List.nil_append, mW_o, mf_66, mf_70, m_129, mf_68, mf_67])
        all_goals (repeat' apply And.intro)
        all_goals ((try clear hB hC hN); first | exact True.intro | with_reducible rfl | exact ⟨_, ck_me_up hF hs1 (by rw [show days - t = n + 1 by omega, zfw]), rfl⟩ | (rw [zfw]) | with_reducible assumption | exact Nat.le_of_ble_eq_true rfl | (with_reducible refine vp_in_nI ?_ ?_ <;> first | omega | decide))
      · intro zc64
        first | exact absurd rfl zc64 | exact absurd zc64 (by decide) | exact absurd (by decide) zc64 | (exfalso; first | exact absurd zc64 (by first | (simp only [nI_leI (show 2 ^ pk < 2 ^ 31 by omega) (show 2 ^ pk < 2 ^ 31 by omega)]; omega) | (simp only [nI_leI (show 2 ^ pk < 2 ^ 31 by omega) (show 2 ^ pk < 2 ^ 31 by omega), Decidable.not_not]; omega))) | (exfalso; simp_all; done)
    | succ n9 ih =>
      intro w F x6 hw hF
      have hw2 : w < 2 ^ pk := by omega
      have hbn := ck_bN w (by omega)
      have zpc : ck_pc w ≤ 8 := by unfold ck_pc; omega
      have zf1 := ck_fm_le (fun w => ck_fw lf run pk many n (t + 1) (ck_wd s w t pk)) many w
      have zf2 := ck_fw_le lf run pk many n (t + 1) (ck_wd s w t pk)
      have zi2 := fun F x6 hF => ih (w + 1) F x6 (by omega) hF
      rw [ck_fm] at zi2
      by_cases hb : many < ck_pc w
      · rw [if_pos hb] at zi2
        refine hB bX11_few_56 _ _ _ _ _ _ _ kX11_few_56 ?_
        dsimp only [bX11_few_56, kx_wp, kx_step, kx_lI, kx_lL, kx_lA, kx_gl, kx_pI, kx_pL, kx_pR, kx_pA, kx_pV, kx_s1, kx_s2, kx_sl, kx_pre, kx_c2, kx_pl, kx_cmp, kx_oF, kx_eqN, kx_nil, kx_c1, kx_ft, kx_aI, kx_aL, kx_aR, kx_ln, Nat.reduceAdd, Option.toList, List.cons_append, List.nil_append, mW_o, mf_66, mf_70, m_129, mf_68, mf_67]
        repeat (simp only [ms_129, h66, h67, h68, zi, nI_1, nI_add, zp2, va_us, va_upn, ne_eq, Nat.reduceEqDiff, not_false_eq_true, hbn]; try dsimp only [kx_wp, kx_step, kx_lI, kx_lL, kx_lA, kx_gl, kx_pI, kx_pL, kx_pR, kx_pA, kx_pV, kx_s1, kx_s2, kx_sl, kx_pre, kx_c2, kx_pl, kx_cmp, kx_oF, kx_eqN, kx_nil, kx_c1, kx_ft, kx_aI, kx_aL, kx_aR, kx_ln, Nat.reduceAdd, Option.toList, List.cons_append, List.nil_append, mW_o, mf_66, mf_70, m_129, mf_68, mf_67])
        repeat' apply And.intro
        all_goals try (first | with_reducible assumption | (with_reducible refine ck_nzI ?_; simp; done) | (with_reducible refine ck_nzL ?_; simp; done) | (with_reducible refine vp_in_nI ?_ ?_ <;> first | omega | decide) | (with_reducible refine Nat.le_of_ble_eq_true ?_; rfl) | omega)
        · intro zc64
          first | exact absurd rfl zc64 | exact absurd zc64 (by decide) | exact absurd (by decide) zc64 | (exfalso; first | exact absurd zc64 (by first | (simp only [nI_leI (show 2 ^ pk < 2 ^ 31 by omega) (show w < 2 ^ 31 by omega)]; omega) | (simp only [nI_leI (show 2 ^ pk < 2 ^ 31 by omega) (show w < 2 ^ 31 by omega), Decidable.not_not]; omega)) | exact absurd zc76 (by first | (simp only [nI_leI (show ck_pc w < 2 ^ 31 by omega) (show many < 2 ^ 31 by omega)]; omega) | (simp only [nI_leI (show ck_pc w < 2 ^ 31 by omega) (show many < 2 ^ 31 by omega), Decidable.not_not]; omega)) | exact absurd zc109 (by first | (simp only [nI_leI (show ck_fm (fun w => ck_fw lf run pk many n (t + 1) (ck_wd s w t pk)) many w < 2 ^ 31 by omega) (show ck_pc w + ck_fw lf run pk many n (t + 1) (ck_wd s w t pk) < 2 ^ 31 by omega)]; omega) | (simp only [nI_leI (show ck_fm (fun w => ck_fw lf run pk many n (t + 1) (ck_wd s w t pk)) many w < 2 ^ 31 by omega) (show ck_pc w + ck_fw lf run pk many n (t + 1) (ck_wd s w t pk) < 2 ^ 31 by omega), Decidable.not_not]; omega))) | (exfalso; simp_all; done)
        · intro zc64
          with_reducible first | have ze64 := Int32.not_le.mp zc64 | have ze64 := zc64
          refine hB bX11_few_67 _ _ _ _ _ _ _ kX11_few_67 ?_
          dsimp only [bX11_few_67, kx_wp, kx_step, kx_lI, kx_lL, kx_lA, kx_gl, kx_pI, kx_pL, kx_pR, kx_pA, kx_pV, kx_s1, kx_s2, kx_sl, kx_pre, kx_c2, kx_pl, kx_cmp, kx_oF, kx_eqN, kx_nil, kx_c1, kx_ft, kx_aI, kx_aL, kx_aR, kx_ln, Nat.reduceAdd, Option.toList, List.cons_append, List.nil_append, mW_o, mf_66, mf_70, m_129, mf_68, mf_67]
          repeat (simp only [ms_129, h66, h67, h68, zi, nI_1, nI_add, zp2, va_us, va_upn, ne_eq, Nat.reduceEqDiff, not_false_eq_true, hbn]; try dsimp only [kx_wp, kx_step, kx_lI, kx_lL, kx_lA, kx_gl, kx_pI, kx_pL, kx_pR, kx_pA, kx_pV, kx_s1, kx_s2, kx_sl, kx_pre, kx_c2, kx_pl, kx_cmp, kx_oF, kx_eqN, kx_nil, kx_c1, kx_ft, kx_aI, kx_aL, kx_aR, kx_ln, Nat.reduceAdd, Option.toList, List.cons_append, List.nil_append, mW_o, mf_66, mf_70, m_129, mf_68, mf_67])
          repeat' apply And.intro
          all_goals try (first | with_reducible assumption | (with_reducible refine ck_nzI ?_; simp; done) | (with_reducible refine ck_nzL ?_; simp; done) | (with_reducible refine vp_in_nI ?_ ?_ <;> first | omega | decide) | (with_reducible refine Nat.le_of_ble_eq_true ?_; rfl) | omega)
          refine hC.2.1 516 _ _ _ _ _ _ _ _ _ _ _ _ _ _ _ _ _ lX11_516 (ct_X11_bits l G) rfl rfl (Nat.le_of_ble_eq_true rfl) (by omega) (by decide) (by omega) (by omega) dX11_few_69 ?_
          refine hB bX11_few_72 _ _ _ _ _ _ _ kX11_few_72 ?_
          dsimp only [bX11_few_72, kx_wp, kx_step, kx_lI, kx_lL, kx_lA, kx_gl, kx_pI, kx_pL, kx_pR, kx_pA, kx_pV, kx_s1, kx_s2, kx_sl, kx_pre, kx_c2, kx_pl, kx_cmp, kx_oF, kx_eqN, kx_nil, kx_c1, kx_ft, kx_aI, kx_aL, kx_aR, kx_ln, Nat.reduceAdd, Option.toList, List.cons_append, List.nil_append, mW_o, mf_66, mf_70, m_129, mf_68, mf_67]
          repeat (simp only [ms_129, h66, h67, h68, zi, nI_1, nI_add, zp2, va_us, va_upn, ne_eq, Nat.reduceEqDiff, not_false_eq_true, hbn]; try dsimp only [kx_wp, kx_step, kx_lI, kx_lL, kx_lA, kx_gl, kx_pI, kx_pL, kx_pR, kx_pA, kx_pV, kx_s1, kx_s2, kx_sl, kx_pre, kx_c2, kx_pl, kx_cmp, kx_oF, kx_eqN, kx_nil, kx_c1, kx_ft, kx_aI, kx_aL, kx_aR, kx_ln, Nat.reduceAdd, Option.toList, List.cons_append, List.nil_append, mW_o, mf_66, mf_70, m_129, mf_68, mf_67])
          repeat' apply And.intro
          all_goals try (first | with_reducible assumption | (with_reducible refine ck_nzI ?_; simp; done) | (with_reducible refine ck_nzL ?_; simp; done) | (with_reducible refine vp_in_nI ?_ ?_ <;> first | omega | decide) | (with_reducible refine Nat.le_of_ble_eq_true ?_; rfl) | omega)
          · intro zc76
            first | exact absurd rfl zc76 | exact absurd zc76 (by decide) | exact absurd (by decide) zc76 | (exfalso; first | exact absurd zc64 (by first | (simp only [nI_leI (show 2 ^ pk < 2 ^ 31 by omega) (show w < 2 ^ 31 by omega)]; omega) | (simp only [nI_leI (show 2 ^ pk < 2 ^ 31 by omega) (show w < 2 ^ 31 by omega), Decidable.not_not]; omega)) | exact absurd zc76 (by first | (simp only [nI_leI (show ck_pc w < 2 ^ 31 by omega) (show many < 2 ^ 31 by omega)]; omega) | (simp only [nI_leI (show ck_pc w < 2 ^ 31 by omega) (show many < 2 ^ 31 by omega), Decidable.not_not]; omega)) | exact absurd zc109 (by first | (simp only [nI_leI (show ck_fm (fun w => ck_fw lf run pk many n (t + 1) (ck_wd s w t pk)) many w < 2 ^ 31 by omega) (show ck_pc w + ck_fw lf run pk many n (t + 1) (ck_wd s w t pk) < 2 ^ 31 by omega)]; omega) | (simp only [nI_leI (show ck_fm (fun w => ck_fw lf run pk many n (t + 1) (ck_wd s w t pk)) many w < 2 ^ 31 by omega) (show ck_pc w + ck_fw lf run pk many n (t + 1) (ck_wd s w t pk) < 2 ^ 31 by omega), Decidable.not_not]; omega))) | (exfalso; simp_all; done)
          · intro zc76
            with_reducible first | have ze76 := Int32.not_le.mp zc76 | have ze76 := zc76
            refine hB bX11_few_79 _ _ _ _ _ _ _ kX11_few_79 ?_
            dsimp only [bX11_few_79, kx_wp, kx_step, kx_lI, kx_lL, kx_lA, kx_gl, kx_pI, kx_pL, kx_pR, kx_pA, kx_pV, kx_s1, kx_s2, kx_sl, kx_pre, kx_c2, kx_pl, kx_cmp, kx_oF, kx_eqN, kx_nil, kx_c1, kx_ft, kx_aI, kx_aL, kx_aR, kx_ln, Nat.reduceAdd, Option.toList, List.cons_append, List.nil_append, mW_o, mf_66, mf_70, m_129, mf_68, mf_67]
            repeat (simp only [ms_129, h66, h67, h68, zi, nI_1, nI_add, zp2, va_us, va_upn, ne_eq, Nat.reduceEqDiff, not_false_eq_true, hbn]; try dsimp only [kx_wp, kx_step, kx_lI, kx_lL, kx_lA, kx_gl, kx_pI, kx_pL, kx_pR, kx_pA, kx_pV, kx_s1, kx_s2, kx_sl, kx_pre, kx_c2, kx_pl, kx_cmp, kx_oF, kx_eqN, kx_nil, kx_c1, kx_ft, kx_aI, kx_aL, kx_aR, kx_ln, Nat.reduceAdd, Option.toList, List.cons_append, List.nil_append, mW_o, mf_66, mf_70, m_129, mf_68, mf_67])
            repeat' apply And.intro
            all_goals try (first | with_reducible assumption | (with_reducible refine ck_nzI ?_; simp; done) | (with_reducible refine ck_nzL ?_; simp; done) | (with_reducible refine vp_in_nI ?_ ?_ <;> first | omega | decide) | (with_reducible refine Nat.le_of_ble_eq_true ?_; rfl) | omega)
            refine hB bX11_few_121 _ _ _ _ _ _ _ kX11_few_121 ?_
            dsimp only [bX11_few_121, kx_wp, kx_step, kx_lI, kx_lL, kx_lA, kx_gl, kx_pI, kx_pL, kx_pR, kx_pA, kx_pV, kx_s1, kx_s2, kx_sl, kx_pre, kx_c2, kx_pl, kx_cmp, kx_oF, kx_eqN, kx_nil, kx_c1, kx_ft, kx_aI, kx_aL, kx_aR, kx_ln, Nat.reduceAdd, Option.toList, List.cons_append, List.nil_append, mW_o, mf_66, mf_70, m_129, mf_68, mf_67]
            repeat (simp only [ms_129, h66, h67, h68, zi, nI_1, nI_add, zp2, va_us, va_upn, ne_eq, Nat.reduceEqDiff, not_false_eq_true, hbn]; try dsimp only [kx_wp, kx_step, kx_lI, kx_lL, kx_lA, kx_gl, kx_pI, kx_pL, kx_pR, kx_pA, kx_pV, kx_s1, kx_s2, kx_sl, kx_pre, kx_c2, kx_pl, kx_cmp, kx_oF, kx_eqN, kx_nil, kx_c1, kx_ft, kx_aI, kx_aL, kx_aR, kx_ln, Nat.reduceAdd, Option.toList, List.cons_append, List.nil_append, mW_o, mf_66, mf_70, m_129, mf_68, mf_67])
            repeat' apply And.intro
            all_goals try (first | with_reducible assumption | (with_reducible refine ck_nzI ?_; simp; done) | (with_reducible refine ck_nzL ?_; simp; done) | (with_reducible refine vp_in_nI ?_ ?_ <;> first | omega | decide) | (with_reducible refine Nat.le_of_ble_eq_true ?_; rfl) | omega)
            all_goals exact zi2 F _ hF
      · rw [if_neg hb] at zi2
        by_cases hlt : ck_pc w + ck_fw lf run pk many n (t + 1) (ck_wd s w t pk) < ck_fm (fun w => ck_fw lf run pk many n (t + 1) (ck_wd s w t pk)) many w
        · rw [if_pos hlt] at zi2
          refine hB bX11_few_56 _ _ _ _ _ _ _ kX11_few_56 ?_
          dsimp only [bX11_few_56, kx_wp, kx_step, kx_lI, kx_lL, kx_lA, kx_gl, kx_pI, kx_pL, kx_pR, kx_pA, kx_pV, kx_s1, kx_s2, kx_sl, kx_pre, kx_c2, kx_pl, kx_cmp, kx_oF, kx_eqN, kx_nil, kx_c1, kx_ft, kx_aI, kx_aL, kx_aR, kx_ln, Nat.reduceAdd, Option.toList, List.cons_append, List.nil_append, mW_o, mf_66, mf_70, m_129, mf_68, mf_67]
          repeat (simp only [ms_129, h66, h67, h68, zi, nI_1, nI_add, zp2, va_us, va_upn, ne_eq, Nat.reduceEqDiff, not_false_eq_true, hbn]; try dsimp only [kx_wp, kx_step, kx_lI, kx_lL, kx_lA, kx_gl, kx_pI, kx_pL, kx_pR, kx_pA, kx_pV, kx_s1, kx_s2, kx_sl, kx_pre, kx_c2, kx_pl, kx_cmp, kx_oF, kx_eqN, kx_nil, kx_c1, kx_ft, kx_aI, kx_aL, kx_aR, kx_ln, Nat.reduceAdd, Option.toList, List.cons_append, List.nil_append, mW_o, mf_66, mf_70, m_129, mf_68, mf_67])
          repeat' apply And.intro
          all_goals try (first | with_reducible assumption | (with_reducible refine ck_nzI ?_; simp; done) | (with_reducible refine ck_nzL ?_; simp; done) | (with_reducible refine vp_in_nI ?_ ?_ <;> first | omega | decide) | (with_reducible refine Nat.le_of_ble_eq_true ?_; rfl) | omega)
          · intro zc64
            first | exact absurd rfl zc64 | exact absurd zc64 (by decide) | exact absurd (by decide) zc64 | (exfalso; first | exact absurd zc64 (by first | (simp only [nI_leI (show 2 ^ pk < 2 ^ 31 by omega) (show w < 2 ^ 31 by omega)]; omega) | (simp only [nI_leI (show 2 ^ pk < 2 ^ 31 by omega) (show w < 2 ^ 31 by omega), Decidable.not_not]; omega)) | exact absurd zc76 (by first | (simp only [nI_leI (show ck_pc w < 2 ^ 31 by omega) (show many < 2 ^ 31 by omega)]; omega) | (simp only [nI_leI (show ck_pc w < 2 ^ 31 by omega) (show many < 2 ^ 31 by omega), Decidable.not_not]; omega)) | exact absurd zc109 (by first | (simp only [nI_leI (show ck_fm (fun w => ck_fw lf run pk many n (t + 1) (ck_wd s w t pk)) many w < 2 ^ 31 by omega) (show ck_pc w + ck_fw lf run pk many n (t + 1) (ck_wd s w t pk) < 2 ^ 31 by omega)]; omega) | (simp only [nI_leI (show ck_fm (fun w => ck_fw lf run pk many n (t + 1) (ck_wd s w t pk)) many w < 2 ^ 31 by omega) (show ck_pc w + ck_fw lf run pk many n (t + 1) (ck_wd s w t pk) < 2 ^ 31 by omega), Decidable.not_not]; omega))) | (exfalso; simp_all; done)
          · intro zc64
            with_reducible first | have ze64 := Int32.not_le.mp zc64 | have ze64 := zc64
            refine hB bX11_few_67 _ _ _ _ _ _ _ kX11_few_67 ?_
            dsimp only [bX11_few_67, kx_wp, kx_step, kx_lI, kx_lL, kx_lA, kx_gl, kx_pI, kx_pL, kx_pR, kx_pA, kx_pV, kx_s1, kx_s2, kx_sl, kx_pre, kx_c2, kx_pl, kx_cmp, kx_oF, kx_eqN, kx_nil, kx_c1, kx_ft, kx_aI, kx_aL, kx_aR, kx_ln, Nat.reduceAdd, Option.toList, List.cons_append, List.nil_append, mW_o, mf_66, mf_70, m_129, mf_68, mf_67]
            repeat (simp only [ms_129, h66, h67, h68, zi, nI_1, nI_add, zp2, va_us, va_upn, ne_eq, Nat.reduceEqDiff, not_false_eq_true, hbn]; try dsimp only [kx_wp, kx_step, kx_lI, kx_lL, kx_lA, kx_gl, kx_pI, kx_pL, kx_pR, kx_pA, kx_pV, kx_s1, kx_s2, kx_sl, kx_pre, kx_c2, kx_pl, kx_cmp, kx_oF, kx_eqN, kx_nil, kx_c1, kx_ft, kx_aI, kx_aL, kx_aR, kx_ln, Nat.reduceAdd, Option.toList, List.cons_append, List.nil_append, mW_o, mf_66, mf_70, m_129, mf_68, mf_67])
            repeat' apply And.intro
            all_goals try (first | with_reducible assumption | (with_reducible refine ck_nzI ?_; simp; done) | (with_reducible refine ck_nzL ?_; simp; done) | (with_reducible refine vp_in_nI ?_ ?_ <;> first | omega | decide) | (with_reducible refine Nat.le_of_ble_eq_true ?_; rfl) | omega)
            refine hC.2.1 516 _ _ _ _ _ _ _ _ _ _ _ _ _ _ _ _ _ lX11_516 (ct_X11_bits l G) rfl rfl (Nat.le_of_ble_eq_true rfl) (by omega) (by decide) (by omega) (by omega) dX11_few_69 ?_
            refine hB bX11_few_72 _ _ _ _ _ _ _ kX11_few_72 ?_
            dsimp only [bX11_few_72, kx_wp, kx_step, kx_lI, kx_lL, kx_lA, kx_gl, kx_pI, kx_pL, kx_pR, kx_pA, kx_pV, kx_s1, kx_s2, kx_sl, kx_pre, kx_c2, kx_pl, kx_cmp, kx_oF, kx_eqN, kx_nil, kx_c1, kx_ft, kx_aI, kx_aL, kx_aR, kx_ln, Nat.reduceAdd, Option.toList, List.cons_append, List.nil_append, mW_o, mf_66, mf_70, m_129, mf_68, mf_67]
            repeat (simp only [ms_129, h66, h67, h68, zi, nI_1, nI_add, zp2, va_us, va_upn, ne_eq, Nat.reduceEqDiff, not_false_eq_true, hbn]; try dsimp only [kx_wp, kx_step, kx_lI, kx_lL, kx_lA, kx_gl, kx_pI, kx_pL, kx_pR, kx_pA, kx_pV, kx_s1, kx_s2, kx_sl, kx_pre, kx_c2, kx_pl, kx_cmp, kx_oF, kx_eqN, kx_nil, kx_c1, kx_ft, kx_aI, kx_aL, kx_aR, kx_ln, Nat.reduceAdd, Option.toList, List.cons_append, List.nil_append, mW_o, mf_66, mf_70, m_129, mf_68, mf_67])
            repeat' apply And.intro
            all_goals try (first | with_reducible assumption | (with_reducible refine ck_nzI ?_; simp; done) | (with_reducible refine ck_nzL ?_; simp; done) | (with_reducible refine vp_in_nI ?_ ?_ <;> first | omega | decide) | (with_reducible refine Nat.le_of_ble_eq_true ?_; rfl) | omega)
            · intro zc76
              with_reducible first | have ze76 := Int32.not_lt.mpr zc76 | have ze76 := zc76
              refine hB bX11_few_82 _ _ _ _ _ _ _ kX11_few_82 ?_
              dsimp only [bX11_few_82, kx_wp, kx_step, kx_lI, kx_lL, kx_lA, kx_gl, kx_pI, kx_pL, kx_pR, kx_pA, kx_pV, kx_s1, kx_s2, kx_sl, kx_pre, kx_c2, kx_pl, kx_cmp, kx_oF, kx_eqN, kx_nil, kx_c1, kx_ft, kx_aI, kx_aL, kx_aR, kx_ln, Nat.reduceAdd, Option.toList, List.cons_append, List.nil_append, mW_o, mf_66, mf_70, m_129, mf_68, mf_67]
              repeat (simp only [ms_129, h66, h67, h68, zi, nI_1, nI_add, zp2, va_us, va_upn, ne_eq, Nat.reduceEqDiff, not_false_eq_true, hbn]; try dsimp only [kx_wp, kx_step, kx_lI, kx_lL, kx_lA, kx_gl, kx_pI, kx_pL, kx_pR, kx_pA, kx_pV, kx_s1, kx_s2, kx_sl, kx_pre, kx_c2, kx_pl, kx_cmp, kx_oF, kx_eqN, kx_nil, kx_c1, kx_ft, kx_aI, kx_aL, kx_aR, kx_ln, Nat.reduceAdd, Option.toList, List.cons_append, List.nil_append, mW_o, mf_66, mf_70, m_129, mf_68, mf_67])
              repeat' apply And.intro
              all_goals try (first | with_reducible assumption | (with_reducible refine ck_nzI ?_; simp; done) | (with_reducible refine ck_nzL ?_; simp; done) | (with_reducible refine vp_in_nI ?_ ?_ <;> first | omega | decide) | (with_reducible refine Nat.le_of_ble_eq_true ?_; rfl) | omega)
              refine hC.2.1 516 _ _ _ _ _ _ _ _ _ _ _ _ _ _ _ _ _ lX11_516 (ct_X11_bits l G) rfl rfl (Nat.le_of_ble_eq_true rfl) (by omega) (by decide) (by omega) (by omega) dX11_few_84 ?_
              refine hB bX11_few_87 _ _ _ _ _ _ _ kX11_few_87 ?_
              dsimp only [bX11_few_87, kx_wp, kx_step, kx_lI, kx_lL, kx_lA, kx_gl, kx_pI, kx_pL, kx_pR, kx_pA, kx_pV, kx_s1, kx_s2, kx_sl, kx_pre, kx_c2, kx_pl, kx_cmp, kx_oF, kx_eqN, kx_nil, kx_c1, kx_ft, kx_aI, kx_aL, kx_aR, kx_ln, Nat.reduceAdd, Option.toList, List.cons_append, List.nil_append, mW_o, mf_66, mf_70, m_129, mf_68, mf_67]
              repeat (simp only [ms_129, h66, h67, h68, zi, nI_1, nI_add, zp2, va_us, va_upn, ne_eq, Nat.reduceEqDiff, not_false_eq_true, hbn]; try dsimp only [kx_wp, kx_step, kx_lI, kx_lL, kx_lA, kx_gl, kx_pI, kx_pL, kx_pR, kx_pA, kx_pV, kx_s1, kx_s2, kx_sl, kx_pre, kx_c2, kx_pl, kx_cmp, kx_oF, kx_eqN, kx_nil, kx_c1, kx_ft, kx_aI, kx_aL, kx_aR, kx_ln, Nat.reduceAdd, Option.toList, List.cons_append, List.nil_append, mW_o, mf_66, mf_70, m_129, mf_68, mf_67])
              repeat' apply And.intro
              all_goals try (first | with_reducible assumption | (with_reducible refine ck_nzI ?_; simp; done) | (with_reducible refine ck_nzL ?_; simp; done) | (with_reducible refine vp_in_nI ?_ ?_ <;> first | omega | decide) | (with_reducible refine Nat.le_of_ble_eq_true ?_; rfl) | omega)
              refine hC.1 522 _ _ _ _ _ _ _ 11 _ _ _ _ _ _ _ _ _ _ _ _ lX11_522 (ct_X11_windsTo l G (A := va_up A 129 F) h68 hpk hs30 (by omega) (by omega) hvs.2) ⟨by decide, rfl⟩ (mW_o) rfl rfl (Nat.le_of_ble_eq_true rfl) (by omega) (by decide) (by omega) (by omega) dX11_few_96 ?_
              refine hN.1 525 _ _ _ _ _ _ _ 11 _ _ _ _ _ _ _ _ _ _ lX11_525 (IH F (t + 1) (ck_wd s w t pk) hF (by omega) (ck_vs_wd w hpk (by omega) hvs)) ⟨by decide, rfl⟩ (mW_o) rfl rfl (Nat.le_of_ble_eq_true rfl) (by omega) (by decide) (by omega) (by omega) dX11_few_99 ?_
              rintro r P2 s2 ⟨rfl, rfl, F2, hF2, rfl⟩
              refine hB bX11_few_102 _ _ _ _ _ _ _ kX11_few_102 ?_
              dsimp only [bX11_few_102, kx_wp, kx_step, kx_lI, kx_lL, kx_lA, kx_gl, kx_pI, kx_pL, kx_pR, kx_pA, kx_pV, kx_s1, kx_s2, kx_sl, kx_pre, kx_c2, kx_pl, kx_cmp, kx_oF, kx_eqN, kx_nil, kx_c1, kx_ft, kx_aI, kx_aL, kx_aR, kx_ln, Nat.reduceAdd, Option.toList, List.cons_append, List.nil_append, mW_o, mf_66, mf_70, m_129, mf_68, mf_67]
              repeat (simp only [ms_129, h66, h67, h68, zi, nI_1, nI_add, zp2, va_us, va_upn, ne_eq, Nat.reduceEqDiff, not_false_eq_true, hbn]; try dsimp only [kx_wp, kx_step, kx_lI, kx_lL, kx_lA, kx_gl, kx_pI, kx_pL, kx_pR, kx_pA, kx_pV, kx_s1, kx_s2, kx_sl, kx_pre, kx_c2, kx_pl, kx_cmp, kx_oF, kx_eqN, kx_nil, kx_c1, kx_ft, kx_aI, kx_aL, kx_aR, kx_ln, Nat.reduceAdd, Option.toList, List.cons_append, List.nil_append, mW_o, mf_66, mf_70, m_129, mf_68, mf_67])
              repeat' apply And.intro
              all_goals try (first | with_reducible assumption | (with_reducible refine ck_nzI ?_; simp; done) | (with_reducible refine ck_nzL ?_; simp; done) | (with_reducible refine vp_in_nI ?_ ?_ <;> first | omega | decide) | (with_reducible refine Nat.le_of_ble_eq_true ?_; rfl) | omega)
              · intro zc109
                first | exact absurd rfl zc109 | exact absurd zc109 (by decide) | exact absurd (by decide) zc109 | (exfalso; first | exact absurd zc64 (by first | (simp only [nI_leI (show 2 ^ pk < 2 ^ 31 by omega) (show w < 2 ^ 31 by omega)]; omega) | (simp only [nI_leI (show 2 ^ pk < 2 ^ 31 by omega) (show w < 2 ^ 31 by omega), Decidable.not_not]; omega)) | exact absurd zc76 (by first | (simp only [nI_leI (show ck_pc w < 2 ^ 31 by omega) (show many < 2 ^ 31 by omega)]; omega) | (simp only [nI_leI (show ck_pc w < 2 ^ 31 by omega) (show many < 2 ^ 31 by omega), Decidable.not_not]; omega)) | exact absurd zc109 (by first | (simp only [nI_leI (show ck_fm (fun w => ck_fw lf run pk many n (t + 1) (ck_wd s w t pk)) many w < 2 ^ 31 by omega) (show ck_pc w + ck_fw lf run pk many n (t + 1) (ck_wd s w t pk) < 2 ^ 31 by omega)]; omega) | (simp only [nI_leI (show ck_fm (fun w => ck_fw lf run pk many n (t + 1) (ck_wd s w t pk)) many w < 2 ^ 31 by omega) (show ck_pc w + ck_fw lf run pk many n (t + 1) (ck_wd s w t pk) < 2 ^ 31 by omega), Decidable.not_not]; omega))) | (exfalso; simp_all; done)
              · intro zc109
                with_reducible first | have ze109 := Int32.not_le.mp zc109 | have ze109 := zc109
                refine hB bX11_few_112 _ _ _ _ _ _ _ kX11_few_112 ?_
                dsimp only [bX11_few_112, kx_wp, kx_step, kx_lI, kx_lL, kx_lA, kx_gl, kx_pI, kx_pL, kx_pR, kx_pA, kx_pV, kx_s1, kx_s2, kx_sl, kx_pre, kx_c2, kx_pl, kx_cmp, kx_oF, kx_eqN, kx_nil, kx_c1, kx_ft, kx_aI, kx_aL, kx_aR, kx_ln, Nat.reduceAdd, Option.toList, List.cons_append, List.nil_append, mW_o, mf_66, mf_70, m_129, mf_68, mf_67]
                repeat (simp only [ms_129, h66, h67, h68, zi, nI_1, nI_add, zp2, va_us, va_upn, ne_eq, Nat.reduceEqDiff, not_false_eq_true, hbn]; try dsimp only [kx_wp, kx_step, kx_lI, kx_lL, kx_lA, kx_gl, kx_pI, kx_pL, kx_pR, kx_pA, kx_pV, kx_s1, kx_s2, kx_sl, kx_pre, kx_c2, kx_pl, kx_cmp, kx_oF, kx_eqN, kx_nil, kx_c1, kx_ft, kx_aI, kx_aL, kx_aR, kx_ln, Nat.reduceAdd, Option.toList, List.cons_append, List.nil_append, mW_o, mf_66, mf_70, m_129, mf_68, mf_67])
                repeat' apply And.intro
                all_goals try (first | with_reducible assumption | (with_reducible refine ck_nzI ?_; simp; done) | (with_reducible refine ck_nzL ?_; simp; done) | (with_reducible refine vp_in_nI ?_ ?_ <;> first | omega | decide) | (with_reducible refine Nat.le_of_ble_eq_true ?_; rfl) | omega)
                refine hB bX11_few_119 _ _ _ _ _ _ _ kX11_few_119 ?_
                dsimp only [bX11_few_119, kx_wp, kx_step, kx_lI, kx_lL, kx_lA, kx_gl, kx_pI, kx_pL, kx_pR, kx_pA, kx_pV, kx_s1, kx_s2, kx_sl, kx_pre, kx_c2, kx_pl, kx_cmp, kx_oF, kx_eqN, kx_nil, kx_c1, kx_ft, kx_aI, kx_aL, kx_aR, kx_ln, Nat.reduceAdd, Option.toList, List.cons_append, List.nil_append, mW_o, mf_66, mf_70, m_129, mf_68, mf_67]
                repeat (simp only [ms_129, h66, h67, h68, zi, nI_1, nI_add, zp2, va_us, va_upn, ne_eq, Nat.reduceEqDiff, not_false_eq_true, hbn]; try dsimp only [kx_wp, kx_step, kx_lI, kx_lL, kx_lA, kx_gl, kx_pI, kx_pL, kx_pR, kx_pA, kx_pV, kx_s1, kx_s2, kx_sl, kx_pre, kx_c2, kx_pl, kx_cmp, kx_oF, kx_eqN, kx_nil, kx_c1, kx_ft, kx_aI, kx_aL, kx_aR, kx_ln, Nat.reduceAdd, Option.toList, List.cons_append, List.nil_append, mW_o, mf_66, mf_70, m_129, mf_68, mf_67])
                repeat' apply And.intro
                all_goals try (first | with_reducible assumption | (with_reducible refine ck_nzI ?_; simp; done) | (with_reducible refine ck_nzL ?_; simp; done) | (with_reducible refine vp_in_nI ?_ ?_ <;> first | omega | decide) | (with_reducible refine Nat.le_of_ble_eq_true ?_; rfl) | omega)
                refine hB bX11_few_121 _ _ _ _ _ _ _ kX11_few_121 ?_
                dsimp only [bX11_few_121, kx_wp, kx_step, kx_lI, kx_lL, kx_lA, kx_gl, kx_pI, kx_pL, kx_pR, kx_pA, kx_pV, kx_s1, kx_s2, kx_sl, kx_pre, kx_c2, kx_pl, kx_cmp, kx_oF, kx_eqN, kx_nil, kx_c1, kx_ft, kx_aI, kx_aL, kx_aR, kx_ln, Nat.reduceAdd, Option.toList, List.cons_append, List.nil_append, mW_o, mf_66, mf_70, m_129, mf_68, mf_67]
                repeat (simp only [ms_129, h66, h67, h68, zi, nI_1, nI_add, zp2, va_us, va_upn, ne_eq, Nat.reduceEqDiff, not_false_eq_true, hbn]; try dsimp only [kx_wp, kx_step, kx_lI, kx_lL, kx_lA, kx_gl, kx_pI, kx_pL, kx_pR, kx_pA, kx_pV, kx_s1, kx_s2, kx_sl, kx_pre, kx_c2, kx_pl, kx_cmp, kx_oF, kx_eqN, kx_nil, kx_c1, kx_ft, kx_aI, kx_aL, kx_aR, kx_ln, Nat.reduceAdd, Option.toList, List.cons_append, List.nil_append, mW_o, mf_66, mf_70, m_129, mf_68, mf_67])
                repeat' apply And.intro
                all_goals try (first | with_reducible assumption | (with_reducible refine ck_nzI ?_; simp; done) | (with_reducible refine ck_nzL ?_; simp; done) | (with_reducible refine vp_in_nI ?_ ?_ <;> first | omega | decide) | (with_reducible refine Nat.le_of_ble_eq_true ?_; rfl) | omega)
                all_goals exact zi2 F2 _ hF2
            · intro zc76
              first | exact absurd rfl zc76 | exact absurd zc76 (by decide) | exact absurd (by decide) zc76 | (exfalso; first | exact absurd zc64 (by first | (simp only [nI_leI (show 2 ^ pk < 2 ^ 31 by omega) (show w < 2 ^ 31 by omega)]; omega) | (simp only [nI_leI (show 2 ^ pk < 2 ^ 31 by omega) (show w < 2 ^ 31 by omega), Decidable.not_not]; omega)) | exact absurd zc76 (by first | (simp only [nI_leI (show ck_pc w < 2 ^ 31 by omega) (show many < 2 ^ 31 by omega)]; omega) | (simp only [nI_leI (show ck_pc w < 2 ^ 31 by omega) (show many < 2 ^ 31 by omega), Decidable.not_not]; omega)) | exact absurd zc109 (by first | (simp only [nI_leI (show ck_fm (fun w => ck_fw lf run pk many n (t + 1) (ck_wd s w t pk)) many w < 2 ^ 31 by omega) (show ck_pc w + ck_fw lf run pk many n (t + 1) (ck_wd s w t pk) < 2 ^ 31 by omega)]; omega) | (simp only [nI_leI (show ck_fm (fun w => ck_fw lf run pk many n (t + 1) (ck_wd s w t pk)) many w < 2 ^ 31 by omega) (show ck_pc w + ck_fw lf run pk many n (t + 1) (ck_wd s w t pk) < 2 ^ 31 by omega), Decidable.not_not]; omega))) | (exfalso; simp_all; done)
        · rw [if_neg hlt] at zi2
          refine hB bX11_few_56 _ _ _ _ _ _ _ kX11_few_56 ?_
          dsimp only [bX11_few_56, kx_wp, kx_step, kx_lI, kx_lL, kx_lA, kx_gl, kx_pI, kx_pL, kx_pR, kx_pA, kx_pV, kx_s1, kx_s2, kx_sl, kx_pre, kx_c2, kx_pl, kx_cmp, kx_oF, kx_eqN, kx_nil, kx_c1, kx_ft, kx_aI, kx_aL, kx_aR, kx_ln, Nat.reduceAdd, Option.toList, List.cons_append, List.nil_append, mW_o, mf_66, mf_70, m_129, mf_68, mf_67]
          repeat (simp only [ms_129, h66, h67, h68, zi, nI_1, nI_add, zp2, va_us, va_upn, ne_eq, Nat.reduceEqDiff, not_false_eq_true, hbn]; try dsimp only [kx_wp, kx_step, kx_lI, kx_lL, kx_lA, kx_gl, kx_pI, kx_pL, kx_pR, kx_pA, kx_pV, kx_s1, kx_s2, kx_sl, kx_pre, kx_c2, kx_pl, kx_cmp, kx_oF, kx_eqN, kx_nil, kx_c1, kx_ft, kx_aI, kx_aL, kx_aR, kx_ln, Nat.reduceAdd, Option.toList, List.cons_append, List.nil_append, mW_o, mf_66, mf_70, m_129, mf_68, mf_67])
          repeat' apply And.intro
          all_goals try (first | with_reducible assumption | (with_reducible refine ck_nzI ?_; simp; done) | (with_reducible refine ck_nzL ?_; simp; done) | (with_reducible refine vp_in_nI ?_ ?_ <;> first | omega | decide) | (with_reducible refine Nat.le_of_ble_eq_true ?_; rfl) | omega)
          · intro zc64
            first | exact absurd rfl zc64 | exact absurd zc64 (by decide) | exact absurd (by decide) zc64 | (exfalso; first | exact absurd zc64 (by first | (simp only [nI_leI (show 2 ^ pk < 2 ^ 31 by omega) (show w < 2 ^ 31 by omega)]; omega) | (simp only [nI_leI (show 2 ^ pk < 2 ^ 31 by omega) (show w < 2 ^ 31 by omega), Decidable.not_not]; omega)) | exact absurd zc76 (by first | (simp only [nI_leI (show ck_pc w < 2 ^ 31 by omega) (show many < 2 ^ 31 by omega)]; omega) | (simp only [nI_leI (show ck_pc w < 2 ^ 31 by omega) (show many < 2 ^ 31 by omega), Decidable.not_not]; omega)) | exact absurd zc109 (by first | (simp only [nI_leI (show ck_fm (fun w => ck_fw lf run pk many n (t + 1) (ck_wd s w t pk)) many w < 2 ^ 31 by omega) (show ck_pc w + ck_fw lf run pk many n (t + 1) (ck_wd s w t pk) < 2 ^ 31 by omega)]; omega) | (simp only [nI_leI (show ck_fm (fun w => ck_fw lf run pk many n (t + 1) (ck_wd s w t pk)) many w < 2 ^ 31 by omega) (show ck_pc w + ck_fw lf run pk many n (t + 1) (ck_wd s w t pk) < 2 ^ 31 by omega), Decidable.not_not]; omega))) | (exfalso; simp_all; done)
          · intro zc64
            with_reducible first | have ze64 := Int32.not_le.mp zc64 | have ze64 := zc64
            refine hB bX11_few_67 _ _ _ _ _ _ _ kX11_few_67 ?_
            dsimp only [bX11_few_67, kx_wp, kx_step, kx_lI, kx_lL, kx_lA, kx_gl, kx_pI, kx_pL, kx_pR, kx_pA, kx_pV, kx_s1, kx_s2, kx_sl, kx_pre, kx_c2, kx_pl, kx_cmp, kx_oF, kx_eqN, kx_nil, kx_c1, kx_ft, kx_aI, kx_aL, kx_aR, kx_ln, Nat.reduceAdd, Option.toList, List.cons_append, List.nil_append, mW_o, mf_66, mf_70, m_129, mf_68, mf_67]
            repeat (simp only [ms_129, h66, h67, h68, zi, nI_1, nI_add, zp2, va_us, va_upn, ne_eq, Nat.reduceEqDiff, not_false_eq_true, hbn]; try dsimp only [kx_wp, kx_step, kx_lI, kx_lL, kx_lA, kx_gl, kx_pI, kx_pL, kx_pR, kx_pA, kx_pV, kx_s1, kx_s2, kx_sl, kx_pre, kx_c2, kx_pl, kx_cmp, kx_oF, kx_eqN, kx_nil, kx_c1, kx_ft, kx_aI, kx_aL, kx_aR, kx_ln, Nat.reduceAdd, Option.toList, List.cons_append, List.nil_append, mW_o, mf_66, mf_70, m_129, mf_68, mf_67])
            repeat' apply And.intro
            all_goals try (first | with_reducible assumption | (with_reducible refine ck_nzI ?_; simp; done) | (with_reducible refine ck_nzL ?_; simp; done) | (with_reducible refine vp_in_nI ?_ ?_ <;> first | omega | decide) | (with_reducible refine Nat.le_of_ble_eq_true ?_; rfl) | omega)
            refine hC.2.1 516 _ _ _ _ _ _ _ _ _ _ _ _ _ _ _ _ _ lX11_516 (ct_X11_bits l G) rfl rfl (Nat.le_of_ble_eq_true rfl) (by omega) (by decide) (by omega) (by omega) dX11_few_69 ?_
            refine hB bX11_few_72 _ _ _ _ _ _ _ kX11_few_72 ?_
            dsimp only [bX11_few_72, kx_wp, kx_step, kx_lI, kx_lL, kx_lA, kx_gl, kx_pI, kx_pL, kx_pR, kx_pA, kx_pV, kx_s1, kx_s2, kx_sl, kx_pre, kx_c2, kx_pl, kx_cmp, kx_oF, kx_eqN, kx_nil, kx_c1, kx_ft, kx_aI, kx_aL, kx_aR, kx_ln, Nat.reduceAdd, Option.toList, List.cons_append, List.nil_append, mW_o, mf_66, mf_70, m_129, mf_68, mf_67]
            repeat (simp only [ms_129, h66, h67, h68, zi, nI_1, nI_add, zp2, va_us, va_upn, ne_eq, Nat.reduceEqDiff, not_false_eq_true, hbn]; try dsimp only [kx_wp, kx_step, kx_lI, kx_lL, kx_lA, kx_gl, kx_pI, kx_pL, kx_pR, kx_pA, kx_pV, kx_s1, kx_s2, kx_sl, kx_pre, kx_c2, kx_pl, kx_cmp, kx_oF, kx_eqN, kx_nil, kx_c1, kx_ft, kx_aI, kx_aL, kx_aR, kx_ln, Nat.reduceAdd, Option.toList, List.cons_append, List.nil_append, mW_o, mf_66, mf_70, m_129, mf_68, mf_67])
            repeat' apply And.intro
            all_goals try (first | with_reducible assumption | (with_reducible refine ck_nzI ?_; simp; done) | (with_reducible refine ck_nzL ?_; simp; done) | (with_reducible refine vp_in_nI ?_ ?_ <;> first | omega | decide) | (with_reducible refine Nat.le_of_ble_eq_true ?_; rfl) | omega)
            · intro zc76
              with_reducible first | have ze76 := Int32.not_lt.mpr zc76 | have ze76 := zc76
              refine hB bX11_few_82 _ _ _ _ _ _ _ kX11_few_82 ?_
              dsimp only [bX11_few_82, kx_wp, kx_step, kx_lI, kx_lL, kx_lA, kx_gl, kx_pI, kx_pL, kx_pR, kx_pA, kx_pV, kx_s1, kx_s2, kx_sl, kx_pre, kx_c2, kx_pl, kx_cmp, kx_oF, kx_eqN, kx_nil, kx_c1, kx_ft, kx_aI, kx_aL, kx_aR, kx_ln, Nat.reduceAdd, Option.toList, List.cons_append, List.nil_append, mW_o, mf_66, mf_70, m_129, mf_68, mf_67]
              repeat (simp only [ms_129, h66, h67, h68, zi, nI_1, nI_add, zp2, va_us, va_upn, ne_eq, Nat.reduceEqDiff, not_false_eq_true, hbn]; try dsimp only [kx_wp, kx_step, kx_lI, kx_lL, kx_lA, kx_gl, kx_pI, kx_pL, kx_pR, kx_pA, kx_pV, kx_s1, kx_s2, kx_sl, kx_pre, kx_c2, kx_pl, kx_cmp, kx_oF, kx_eqN, kx_nil, kx_c1, kx_ft, kx_aI, kx_aL, kx_aR, kx_ln, Nat.reduceAdd, Option.toList, List.cons_append, List.nil_append, mW_o, mf_66, mf_70, m_129, mf_68, mf_67])
              repeat' apply And.intro
              all_goals try (first | with_reducible assumption | (with_reducible refine ck_nzI ?_; simp; done) | (with_reducible refine ck_nzL ?_; simp; done) | (with_reducible refine vp_in_nI ?_ ?_ <;> first | omega | decide) | (with_reducible refine Nat.le_of_ble_eq_true ?_; rfl) | omega)
              refine hC.2.1 516 _ _ _ _ _ _ _ _ _ _ _ _ _ _ _ _ _ lX11_516 (ct_X11_bits l G) rfl rfl (Nat.le_of_ble_eq_true rfl) (by omega) (by decide) (by omega) (by omega) dX11_few_84 ?_
              refine hB bX11_few_87 _ _ _ _ _ _ _ kX11_few_87 ?_
              dsimp only [bX11_few_87, kx_wp, kx_step, kx_lI, kx_lL, kx_lA, kx_gl, kx_pI, kx_pL, kx_pR, kx_pA, kx_pV, kx_s1, kx_s2, kx_sl, kx_pre, kx_c2, kx_pl, kx_cmp, kx_oF, kx_eqN, kx_nil, kx_c1, kx_ft, kx_aI, kx_aL, kx_aR, kx_ln, Nat.reduceAdd, Option.toList, List.cons_append, List.nil_append, mW_o, mf_66, mf_70, m_129, mf_68, mf_67]
              repeat (simp only [ms_129, h66, h67, h68, zi, nI_1, nI_add, zp2, va_us, va_upn, ne_eq, Nat.reduceEqDiff, not_false_eq_true, hbn]; try dsimp only [kx_wp, kx_step, kx_lI, kx_lL, kx_lA, kx_gl, kx_pI, kx_pL, kx_pR, kx_pA, kx_pV, kx_s1, kx_s2, kx_sl, kx_pre, kx_c2, kx_pl, kx_cmp, kx_oF, kx_eqN, kx_nil, kx_c1, kx_ft, kx_aI, kx_aL, kx_aR, kx_ln, Nat.reduceAdd, Option.toList, List.cons_append, List.nil_append, mW_o, mf_66, mf_70, m_129, mf_68, mf_67])
              repeat' apply And.intro
              all_goals try (first | with_reducible assumption | (with_reducible refine ck_nzI ?_; simp; done) | (with_reducible refine ck_nzL ?_; simp; done) | (with_reducible refine vp_in_nI ?_ ?_ <;> first | omega | decide) | (with_reducible refine Nat.le_of_ble_eq_true ?_; rfl) | omega)
              refine hC.1 522 _ _ _ _ _ _ _ 11 _ _ _ _ _ _ _ _ _ _ _ _ lX11_522 (ct_X11_windsTo l G (A := va_up A 129 F) h68 hpk hs30 (by omega) (by omega) hvs.2) ⟨by decide, rfl⟩ (mW_o) rfl rfl (Nat.le_of_ble_eq_true rfl) (by omega) (by decide) (by omega) (by omega) dX11_few_96 ?_
              refine hN.1 525 _ _ _ _ _ _ _ 11 _ _ _ _ _ _ _ _ _ _ lX11_525 (IH F (t + 1) (ck_wd s w t pk) hF (by omega) (ck_vs_wd w hpk (by omega) hvs)) ⟨by decide, rfl⟩ (mW_o) rfl rfl (Nat.le_of_ble_eq_true rfl) (by omega) (by decide) (by omega) (by omega) dX11_few_99 ?_
              rintro r P2 s2 ⟨rfl, rfl, F2, hF2, rfl⟩
              refine hB bX11_few_102 _ _ _ _ _ _ _ kX11_few_102 ?_
              dsimp only [bX11_few_102, kx_wp, kx_step, kx_lI, kx_lL, kx_lA, kx_gl, kx_pI, kx_pL, kx_pR, kx_pA, kx_pV, kx_s1, kx_s2, kx_sl, kx_pre, kx_c2, kx_pl, kx_cmp, kx_oF, kx_eqN, kx_nil, kx_c1, kx_ft, kx_aI, kx_aL, kx_aR, kx_ln, Nat.reduceAdd, Option.toList, List.cons_append, List.nil_append, mW_o, mf_66, mf_70, m_129, mf_68, mf_67]
              repeat (simp only [ms_129, h66, h67, h68, zi, nI_1, nI_add, zp2, va_us, va_upn, ne_eq, Nat.reduceEqDiff, not_false_eq_true, hbn]; try dsimp only [kx_wp, kx_step, kx_lI, kx_lL, kx_lA, kx_gl, kx_pI, kx_pL, kx_pR, kx_pA, kx_pV, kx_s1, kx_s2, kx_sl, kx_pre, kx_c2, kx_pl, kx_cmp, kx_oF, kx_eqN, kx_nil, kx_c1, kx_ft, kx_aI, kx_aL, kx_aR, kx_ln, Nat.reduceAdd, Option.toList, List.cons_append, List.nil_append, mW_o, mf_66, mf_70, m_129, mf_68, mf_67])
              repeat' apply And.intro
              all_goals try (first | with_reducible assumption | (with_reducible refine ck_nzI ?_; simp; done) | (with_reducible refine ck_nzL ?_; simp; done) | (with_reducible refine vp_in_nI ?_ ?_ <;> first | omega | decide) | (with_reducible refine Nat.le_of_ble_eq_true ?_; rfl) | omega)
              · intro zc109
                with_reducible first | have ze109 := Int32.not_lt.mpr zc109 | have ze109 := zc109
                refine hB bX11_few_117 _ _ _ _ _ _ _ kX11_few_117 ?_
                dsimp only [bX11_few_117, kx_wp, kx_step, kx_lI, kx_lL, kx_lA, kx_gl, kx_pI, kx_pL, kx_pR, kx_pA, kx_pV, kx_s1, kx_s2, kx_sl, kx_pre, kx_c2, kx_pl, kx_cmp, kx_oF, kx_eqN, kx_nil, kx_c1, kx_ft, kx_aI, kx_aL, kx_aR, kx_ln, Nat.reduceAdd, Option.toList, List.cons_append, List.nil_append, mW_o, mf_66, mf_70, m_129, mf_68, mf_67]
                repeat (simp only [ms_129, h66, h67, h68, zi, nI_1, nI_add, zp2, va_us, va_upn, ne_eq, Nat.reduceEqDiff, not_false_eq_true, hbn]; try dsimp only [kx_wp, kx_step, kx_lI, kx_lL, kx_lA, kx_gl, kx_pI, kx_pL, kx_pR, kx_pA, kx_pV, kx_s1, kx_s2, kx_sl, kx_pre, kx_c2, kx_pl, kx_cmp, kx_oF, kx_eqN, kx_nil, kx_c1, kx_ft, kx_aI, kx_aL, kx_aR, kx_ln, Nat.reduceAdd, Option.toList, List.cons_append, List.nil_append, mW_o, mf_66, mf_70, m_129, mf_68, mf_67])
                repeat' apply And.intro
                all_goals try (first | with_reducible assumption | (with_reducible refine ck_nzI ?_; simp; done) | (with_reducible refine ck_nzL ?_; simp; done) | (with_reducible refine vp_in_nI ?_ ?_ <;> first | omega | decide) | (with_reducible refine Nat.le_of_ble_eq_true ?_; rfl) | omega)
                refine hB bX11_few_119 _ _ _ _ _ _ _ kX11_few_119 ?_
                dsimp only [bX11_few_119, kx_wp, kx_step, kx_lI, kx_lL, kx_lA, kx_gl, kx_pI, kx_pL, kx_pR, kx_pA, kx_pV, kx_s1, kx_s2, kx_sl, kx_pre, kx_c2, kx_pl, kx_cmp, kx_oF, kx_eqN, kx_nil, kx_c1, kx_ft, kx_aI, kx_aL, kx_aR, kx_ln, Nat.reduceAdd, Option.toList, List.cons_append, List.nil_append, mW_o, mf_66, mf_70, m_129, mf_68, mf_67]
                repeat (simp only [ms_129, h66, h67, h68, zi, nI_1, nI_add, zp2, va_us, va_upn, ne_eq, Nat.reduceEqDiff, not_false_eq_true, hbn]; try dsimp only [kx_wp, kx_step, kx_lI, kx_lL, kx_lA, kx_gl, kx_pI, kx_pL, kx_pR, kx_pA, kx_pV, kx_s1, kx_s2, kx_sl, kx_pre, kx_c2, kx_pl, kx_cmp, kx_oF, kx_eqN, kx_nil, kx_c1, kx_ft, kx_aI, kx_aL, kx_aR, kx_ln, Nat.reduceAdd, Option.toList, List.cons_append, List.nil_append, mW_o, mf_66, mf_70, m_129, mf_68, mf_67])
                repeat' apply And.intro
                all_goals try (first | with_reducible assumption | (with_reducible refine ck_nzI ?_; simp; done) | (with_reducible refine ck_nzL ?_; simp; done) | (with_reducible refine vp_in_nI ?_ ?_ <;> first | omega | decide) | (with_reducible refine Nat.le_of_ble_eq_true ?_; rfl) | omega)
                refine hB bX11_few_121 _ _ _ _ _ _ _ kX11_few_121 ?_
                dsimp only [bX11_few_121, kx_wp, kx_step, kx_lI, kx_lL, kx_lA, kx_gl, kx_pI, kx_pL, kx_pR, kx_pA, kx_pV, kx_s1, kx_s2, kx_sl, kx_pre, kx_c2, kx_pl, kx_cmp, kx_oF, kx_eqN, kx_nil, kx_c1, kx_ft, kx_aI, kx_aL, kx_aR, kx_ln, Nat.reduceAdd, Option.toList, List.cons_append, List.nil_append, mW_o, mf_66, mf_70, m_129, mf_68, mf_67]
                repeat (simp only [ms_129, h66, h67, h68, zi, nI_1, nI_add, zp2, va_us, va_upn, ne_eq, Nat.reduceEqDiff, not_false_eq_true, hbn]; try dsimp only [kx_wp, kx_step, kx_lI, kx_lL, kx_lA, kx_gl, kx_pI, kx_pL, kx_pR, kx_pA, kx_pV, kx_s1, kx_s2, kx_sl, kx_pre, kx_c2, kx_pl, kx_cmp, kx_oF, kx_eqN, kx_nil, kx_c1, kx_ft, kx_aI, kx_aL, kx_aR, kx_ln, Nat.reduceAdd, Option.toList, List.cons_append, List.nil_append, mW_o, mf_66, mf_70, m_129, mf_68, mf_67])
                repeat' apply And.intro
                all_goals try (first | with_reducible assumption | (with_reducible refine ck_nzI ?_; simp; done) | (with_reducible refine ck_nzL ?_; simp; done) | (with_reducible refine vp_in_nI ?_ ?_ <;> first | omega | decide) | (with_reducible refine Nat.le_of_ble_eq_true ?_; rfl) | omega)
                all_goals exact zi2 F2 _ hF2
              · intro zc109
                first | exact absurd rfl zc109 | exact absurd zc109 (by decide) | exact absurd (by decide) zc109 | (exfalso; first | exact absurd zc64 (by first | (simp only [nI_leI (show 2 ^ pk < 2 ^ 31 by omega) (show w < 2 ^ 31 by omega)]; omega) | (simp only [nI_leI (show 2 ^ pk < 2 ^ 31 by omega) (show w < 2 ^ 31 by omega), Decidable.not_not]; omega)) | exact absurd zc76 (by first | (simp only [nI_leI (show ck_pc w < 2 ^ 31 by omega) (show many < 2 ^ 31 by omega)]; omega) | (simp only [nI_leI (show ck_pc w < 2 ^ 31 by omega) (show many < 2 ^ 31 by omega), Decidable.not_not]; omega)) | exact absurd zc109 (by first | (simp only [nI_leI (show ck_fm (fun w => ck_fw lf run pk many n (t + 1) (ck_wd s w t pk)) many w < 2 ^ 31 by omega) (show ck_pc w + ck_fw lf run pk many n (t + 1) (ck_wd s w t pk) < 2 ^ 31 by omega)]; omega) | (simp only [nI_leI (show ck_fm (fun w => ck_fw lf run pk many n (t + 1) (ck_wd s w t pk)) many w < 2 ^ 31 by omega) (show ck_pc w + ck_fw lf run pk many n (t + 1) (ck_wd s w t pk) < 2 ^ 31 by omega), Decidable.not_not]; omega))) | (exfalso; simp_all; done)
            · intro zc76
              first | exact absurd rfl zc76 | exact absurd zc76 (by decide) | exact absurd (by decide) zc76 | (exfalso; first | exact absurd zc64 (by first | (simp only [nI_leI (show 2 ^ pk < 2 ^ 31 by omega) (show w < 2 ^ 31 by omega)]; omega) | (simp only [nI_leI (show 2 ^ pk < 2 ^ 31 by omega) (show w < 2 ^ 31 by omega), Decidable.not_not]; omega)) | exact absurd zc76 (by first | (simp only [nI_leI (show ck_pc w < 2 ^ 31 by omega) (show many < 2 ^ 31 by omega)]; omega) | (simp only [nI_leI (show ck_pc w < 2 ^ 31 by omega) (show many < 2 ^ 31 by omega), Decidable.not_not]; omega)) | exact absurd zc109 (by first | (simp only [nI_leI (show ck_fm (fun w => ck_fw lf run pk many n (t + 1) (ck_wd s w t pk)) many w < 2 ^ 31 by omega) (show ck_pc w + ck_fw lf run pk many n (t + 1) (ck_wd s w t pk) < 2 ^ 31 by omega)]; omega) | (simp only [nI_leI (show ck_fm (fun w => ck_fw lf run pk many n (t + 1) (ck_wd s w t pk)) many w < 2 ^ 31 by omega) (show ck_pc w + ck_fw lf run pk many n (t + 1) (ck_wd s w t pk) < 2 ^ 31 by omega), Decidable.not_not]; omega))) | (exfalso; simp_all; done)
  refine hB bX11_few_0 _ _ _ _ _ _ _ kX11_few_0 ?_
  dsimp only [bX11_few_0, kx_wp, kx_step, kx_lI, kx_lL, kx_lA, kx_gl, kx_pI, kx_pL, kx_pR, kx_pA, kx_pV, kx_s1, kx_s2, kx_sl, kx_pre, kx_c2, kx_pl, kx_cmp, kx_oF, kx_eqN, kx_nil, kx_c1, kx_ft, kx_aI, kx_aL, kx_aR, kx_ln, Nat.reduceAdd, Option.toList, List.cons_append, List.nil_append, mW_o, mf_66, mf_70, m_129, mf_68, mf_67]
  repeat (simp only [ms_129, h66, h67, h68, zi, nI_1, nI_add, zp2, va_us, va_upn, ne_eq, Nat.reduceEqDiff, not_false_eq_true, nI_clamp (show 14641 * t + s < 2 ^ 31 by omega)]; try dsimp only [kx_wp, kx_step, kx_lI, kx_lL, kx_lA, kx_gl, kx_pI, kx_pL, kx_pR, kx_pA, kx_pV, kx_s1, kx_s2, kx_sl, kx_pre, kx_c2, kx_pl, kx_cmp, kx_oF, kx_eqN, kx_nil, kx_c1, kx_ft, kx_aI, kx_aL, kx_aR, kx_ln, Nat.reduceAdd, Option.toList, List.cons_append, List.nil_append, mW_o, mf_66, mf_70, m_129, mf_68, mf_67])
  repeat' apply And.intro
  all_goals try (first | with_reducible assumption | (with_reducible refine ck_nzI ?_; simp; done) | (with_reducible refine ck_nzL ?_; simp; done) | (with_reducible refine vp_in_nI ?_ ?_ <;> first | omega | decide) | (with_reducible refine Nat.le_of_ble_eq_true ?_; rfl) | omega)
  refine hC.1 510 _ _ _ _ _ _ _ 11 _ _ _ _ _ _ _ _ _ _ _ _ lX11_510 (ct_X11_areGoing l G (A := va_up A 129 F) h68 hpk hs30 (by omega) (hpl2 F) hvs.2) ⟨by decide, rfl⟩ (mW_o) rfl rfl (Nat.le_of_ble_eq_true rfl) (by omega) (by decide) (by omega) (by omega) dX11_few_3 ?_
  rw [if_pos hg]
  refine hB bX11_few_6 _ _ _ _ _ _ _ kX11_few_6 ?_
  dsimp only [bX11_few_6, kx_wp, kx_step, kx_lI, kx_lL, kx_lA, kx_gl, kx_pI, kx_pL, kx_pR, kx_pA, kx_pV, kx_s1, kx_s2, kx_sl, kx_pre, kx_c2, kx_pl, kx_cmp, kx_oF, kx_eqN, kx_nil, kx_c1, kx_ft, kx_aI, kx_aL, kx_aR, kx_ln, Nat.reduceAdd, Option.toList, List.cons_append, List.nil_append, mW_o, mf_66, mf_70, m_129, mf_68, mf_67]
  repeat (simp only [ms_129, h66, h67, h68, zi, nI_1, nI_add, zp2, va_us, va_upn, ne_eq, Nat.reduceEqDiff, not_false_eq_true, nI_clamp (show 14641 * t + s < 2 ^ 31 by omega)]; try dsimp only [kx_wp, kx_step, kx_lI, kx_lL, kx_lA, kx_gl, kx_pI, kx_pL, kx_pR, kx_pA, kx_pV, kx_s1, kx_s2, kx_sl, kx_pre, kx_c2, kx_pl, kx_cmp, kx_oF, kx_eqN, kx_nil, kx_c1, kx_ft, kx_aI, kx_aL, kx_aR, kx_ln, Nat.reduceAdd, Option.toList, List.cons_append, List.nil_append, mW_o, mf_66, mf_70, m_129, mf_68, mf_67])
  repeat' apply And.intro
  all_goals try (first | with_reducible assumption | (with_reducible refine ck_nzI ?_; simp; done) | (with_reducible refine ck_nzL ?_; simp; done) | (with_reducible refine vp_in_nI ?_ ?_ <;> first | omega | decide) | (with_reducible refine Nat.le_of_ble_eq_true ?_; rfl) | omega)
  · intro zc6
    have ze6 := zc6
    refine hB bX11_few_13 _ _ _ _ _ _ _ kX11_few_13 ?_
    dsimp only [bX11_few_13, kx_wp, kx_step, kx_lI, kx_lL, kx_lA, kx_gl, kx_pI, kx_pL, kx_pR, kx_pA, kx_pV, kx_s1, kx_s2, kx_sl, kx_pre, kx_c2, kx_pl, kx_cmp, kx_oF, kx_eqN, kx_nil, kx_c1, kx_ft, kx_aI, kx_aL, kx_aR, kx_ln, Nat.reduceAdd, Option.toList, List.cons_append, List.nil_append, mW_o, mf_66, mf_70, m_129, mf_68, mf_67]
    repeat (simp only [ms_129, h66, h67, h68, zi, nI_1, nI_add, zp2, va_us, va_upn, ne_eq, Nat.reduceEqDiff, not_false_eq_true, nI_clamp (show 14641 * t + s < 2 ^ 31 by omega)]; try dsimp only [kx_wp, kx_step, kx_lI, kx_lL, kx_lA, kx_gl, kx_pI, kx_pL, kx_pR, kx_pA, kx_pV, kx_s1, kx_s2, kx_sl, kx_pre, kx_c2, kx_pl, kx_cmp, kx_oF, kx_eqN, kx_nil, kx_c1, kx_ft, kx_aI, kx_aL, kx_aR, kx_ln, Nat.reduceAdd, Option.toList, List.cons_append, List.nil_append, mW_o, mf_66, mf_70, m_129, mf_68, mf_67])
    repeat' apply And.intro
    all_goals try (first | with_reducible assumption | (with_reducible refine ck_nzI ?_; simp; done) | (with_reducible refine ck_nzL ?_; simp; done) | (with_reducible refine vp_in_nI ?_ ?_ <;> first | omega | decide) | (with_reducible refine Nat.le_of_ble_eq_true ?_; rfl) | omega)
    · intro zc18
      have ze18 := zc18
      refine hB bX11_few_23 _ _ _ _ _ _ _ kX11_few_23 ?_
      dsimp only [bX11_few_23, kx_wp, kx_step, kx_lI, kx_lL, kx_lA, kx_gl, kx_pI, kx_pL, kx_pR, kx_pA, kx_pV, kx_s1, kx_s2, kx_sl, kx_pre, kx_c2, kx_pl, kx_cmp, kx_oF, kx_eqN, kx_nil, kx_c1, kx_ft, kx_aI, kx_aL, kx_aR, kx_ln, Nat.reduceAdd, Option.toList, List.cons_append, List.nil_append, mW_o, mf_66, mf_70, m_129, mf_68, mf_67]
      repeat (simp only [ms_129, h66, h67, h68, zi, nI_1, nI_add, zp2, va_us, va_upn, ne_eq, Nat.reduceEqDiff, not_false_eq_true, nI_clamp (show 14641 * t + s < 2 ^ 31 by omega)]; try dsimp only [kx_wp, kx_step, kx_lI, kx_lL, kx_lA, kx_gl, kx_pI, kx_pL, kx_pR, kx_pA, kx_pV, kx_s1, kx_s2, kx_sl, kx_pre, kx_c2, kx_pl, kx_cmp, kx_oF, kx_eqN, kx_nil, kx_c1, kx_ft, kx_aI, kx_aL, kx_aR, kx_ln, Nat.reduceAdd, Option.toList, List.cons_append, List.nil_append, mW_o, mf_66, mf_70, m_129, mf_68, mf_67])
      repeat' apply And.intro
      all_goals try (first | with_reducible assumption | (with_reducible refine ck_nzI ?_; simp; done) | (with_reducible refine ck_nzL ?_; simp; done) | (with_reducible refine vp_in_nI ?_ ?_ <;> first | omega | decide) | (with_reducible refine Nat.le_of_ble_eq_true ?_; rfl) | omega)
      · intro zc38
        have ze38 := zc38
        refine hB bX11_few_48 _ _ _ _ _ _ _ kX11_few_48 ?_
        dsimp only [bX11_few_48, kx_wp, kx_step, kx_lI, kx_lL, kx_lA, kx_gl, kx_pI, kx_pL, kx_pR, kx_pA, kx_pV, kx_s1, kx_s2, kx_sl, kx_pre, kx_c2, kx_pl, kx_cmp, kx_oF, kx_eqN, kx_nil, kx_c1, kx_ft, kx_aI, kx_aL, kx_aR, kx_ln, Nat.reduceAdd, Option.toList, List.cons_append, List.nil_append, mW_o, mf_66, mf_70, m_129, mf_68, mf_67]
        repeat (simp only [ms_129, h66, h67, h68, zi, nI_1, nI_add, zp2, va_us, va_upn, ne_eq, Nat.reduceEqDiff, not_false_eq_true, nI_clamp (show 14641 * t + s < 2 ^ 31 by omega)]; try dsimp only [kx_wp, kx_step, kx_lI, kx_lL, kx_lA, kx_gl, kx_pI, kx_pL, kx_pR, kx_pA, kx_pV, kx_s1, kx_s2, kx_sl, kx_pre, kx_c2, kx_pl, kx_cmp, kx_oF, kx_eqN, kx_nil, kx_c1, kx_ft, kx_aI, kx_aL, kx_aR, kx_ln, Nat.reduceAdd, Option.toList, List.cons_append, List.nil_append, mW_o, mf_66, mf_70, m_129, mf_68, mf_67])
        repeat' apply And.intro
        all_goals try (first | with_reducible assumption | (with_reducible refine ck_nzI ?_; simp; done) | (with_reducible refine ck_nzL ?_; simp; done) | (with_reducible refine vp_in_nI ?_ ?_ <;> first | omega | decide) | (with_reducible refine Nat.le_of_ble_eq_true ?_; rfl) | omega)
        all_goals exact loop56 (2 ^ pk) 0 F _ (by omega) hF
      · intro zc38
        first | exact absurd rfl zc38 | exact absurd zc38 (by decide) | exact absurd (by decide) zc38 | (exfalso; first | exact zc6 rfl | exact absurd zc6 (by decide) | exact absurd ((nI_eq (by omega) (by omega)).mp zc18) (by omega) | exact absurd ((nI_eq (by omega) (by omega)).mp (Decidable.not_not.mp zc18)) (by omega) | exact zc38 hm0 | exact absurd hm0 zc38) | (exfalso; simp_all; done)
    · intro zc18
      first | exact absurd rfl zc18 | exact absurd zc18 (by decide) | exact absurd (by decide) zc18 | (exfalso; first | exact zc6 rfl | exact absurd zc6 (by decide) | exact absurd ((nI_eq (by omega) (by omega)).mp zc18) (by omega) | exact absurd ((nI_eq (by omega) (by omega)).mp (Decidable.not_not.mp zc18)) (by omega) | exact zc38 hm0 | exact absurd hm0 zc38) | (exfalso; simp_all; done)
  · intro zc6
    first | exact absurd rfl zc6 | exact absurd zc6 (by decide) | exact absurd (by decide) zc6 | (exfalso; first | exact zc6 rfl | exact absurd zc6 (by decide) | exact absurd ((nI_eq (by omega) (by omega)).mp zc18) (by omega) | exact absurd ((nI_eq (by omega) (by omega)).mp (Decidable.not_not.mp zc18)) (by omega) | exact zc38 hm0 | exact absurd hm0 zc38) | (exfalso; simp_all; done)

theorem ct_X11_few (l : Launch) (G : kx_G) {M : Nat → Int32} {A : Nat → Nat → Int32} {L : Nat → Nat → Int64} {R : kx_P} {sz : Nat} {lf run : Nat → Nat} {pk many days : Nat} (h66 : M 66 = nI days) (hdays : days ≤ 10) (h67 : M 67 = nI many) (hmany : many ≤ 2) (h68 : M 68 = nI pk) (hpk : pk ≤ 4) (hpl : ck_pl A pk lf run) :
    ∀ (n : Nat) (F : Nat → Int32) (t s : Nat), ck_me lf run pk many days F → t + n = days → ck_vs pk s t → kx_Mn l G sX11_few (n + 4) 0 0 [.ref 93, .int (nI t), .int (nI s)] (mW M (va_up A 129 F) L R) sz (fun r P2 s2 => s2 = sz ∧ r = some (.int (nI (ck_fw lf run pk many n t s))) ∧ ∃ F2, ck_me lf run pk many days F2 ∧ P2 = mW M (va_up A 129 F2) L R)
  | 0, F, t, s, hF, hd, hvs => by
    by_cases hg : ck_ag lf run s t pk 0 = true
    · exact ct_X11_few_zg l G h66 hdays h67 hmany h68 hpk hpl hF hvs hd hg
    · exact ct_X11_few_zn l G h66 hdays h67 hmany h68 hpk hpl hF hvs hd hg
  | n + 1, F, t, s, hF, hd, hvs => by
    by_cases hg : ck_ag lf run s t pk 0 = true
    · by_cases hm : F (14641 * t + s) = -1
      · exact ct_X11_few_s l G h66 hdays h67 hmany h68 hpk hpl hF hvs hd hg hm (fun F t s a b c => ct_X11_few l G h66 hdays h67 hmany h68 hpk hpl n F t s a b c)
      · exact ct_X11_few_m l G h66 hdays h67 hmany h68 hpk hpl hF hvs hd hg hm
    · exact ct_X11_few_sn l G h66 hdays h67 hmany h68 hpk hpl hF hvs hd hg


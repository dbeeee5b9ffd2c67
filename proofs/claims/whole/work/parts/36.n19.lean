/-- what foretold and its like see -/
def ck_seenV (S : ck_S) (c : Nat) : Nat → Int32
  | 0 => ck_err (S.2.2 116 c) (S.1 1)
  | 1 => S.2.1 108 c
  | 2 => S.2.1 109 c
  | 3 => if S.2.1 117 c = 0 then -1 else S.2.1 110 c
  | 4 => S.2.1 111 c
  | 5 => S.1 51
  | _ => S.1 52
theorem ct_X11_seen (l : Launch) (G : kx_G) {S : ck_S} {R : kx_P} {sz c : Nat} (hc : c < 8) {k : Nat} (hk : k ≤ 6) :
    kx_M l G sX11_seen 2 0 0 [.ref 93, .int (nI c), .int (nI k)] (ck_W S R) sz (some (.int (ck_seenV S c k))) (ck_W S R) sz := by
  match k, hk with
  | 0, _ => exact ct_X11_seen_0 l G hc
  | 1, _ => exact ct_X11_seen_1 l G hc
  | 2, _ => exact ct_X11_seen_2 l G hc
  | 3, _ => exact ct_X11_seen_3 l G hc
  | 4, _ => exact ct_X11_seen_4 l G hc
  | 5, _ => exact ct_X11_seen_5 l G hc
  | 6, _ => exact ct_X11_seen_6 l G hc
/-- where foretelling begins -/
def ck_fS (M : Nat → Int32) (A : Nat → Nat → Int32) (L : Nat → Nat → Int64) (cl c : Nat) : ck_S :=
  (upd (upd (upd (upd (upd (upd M 0 0) 84 (M 1)) 49 1) 50 (nI c)) 51 0) 52 0, ck_svA A cl, va_up L 142 (ck_cp (L 142) (L 116) cl))
theorem ck_iv_fS {cl sd c k : Nat} {M : Nat → Int32} {A : Nat → Nat → Int32} {L : Nat → Nat → Int64} (h : ck_iv cl sd (M, A, L)) : ck_iv cl sd (ck_fS M A L k c) := h
/-- what foretelling leaves -/
def ck_fo (M : Nat → Int32) (A : Nat → Nat → Int32) (L : Nat → Nat → Int64) (cl c k : Nat) : ck_S :=
  (upd (upd (ck_mns (ck_fS M A L cl c) cl k).1 49 0) 1 (M 1), ck_rsA (ck_mns (ck_fS M A L cl c) cl k).2.1 cl, va_up (ck_mns (ck_fS M A L cl c) cl k).2.2 116 (ck_cp ((ck_mns (ck_fS M A L cl c) cl k).2.2 116) ((ck_mns (ck_fS M A L cl c) cl k).2.2 142) cl))

def bX11_foretold_0 : List kx_O := [(.aload_n 0, 0, 0, 0, .null), (.iconst 0, 0, 0, 0, .int 0), (.putfield 1, 11, 0, 0, .null), (.aload_n 0, 0, 0, 0, .null), (.iload_n 1, 1, 0, 0, .null)]
theorem kX11_foretold_0 : kx_oks kxL_X11 false cX11_foretold 0 bX11_foretold_0 = true := by decide +kernel
def bX11_foretold_10 : List kx_O := [(.ifCond .eq 61, 71, 0, 0, .null)]
theorem kX11_foretold_10 : kx_oks kxL_X11 false cX11_foretold 10 bX11_foretold_10 = true := by decide +kernel
def bX11_foretold_13 : List kx_O := [(.aload_n 0, 0, 0, 0, .null), (.iload_n 2, 2, 0, 0, .null), (.iconst 1, 0, 0, 0, .int 1), (.sipush 3000, 0, 0, 0, .int 3000)]
theorem kX11_foretold_13 : kx_oks kxL_X11 false cX11_foretold 13 bX11_foretold_13 = true := by decide +kernel
def bX11_foretold_22 : List kx_O := [(.ifCond .eq 17, 39, 0, 0, .null)]
theorem kX11_foretold_22 : kx_oks kxL_X11 false cX11_foretold 22 bX11_foretold_22 = true := by decide +kernel
def bX11_foretold_25 : List kx_O := [(.iload_n 3, 3, 0, 0, .null), (.iconst 0, 0, 0, 0, .int 0), (.bipush 6, 0, 0, 0, .int 6)]
theorem kX11_foretold_25 : kx_oks kxL_X11 false cX11_foretold 25 bX11_foretold_25 = true := by decide +kernel
def bX11_foretold_32 : List kx_O := [(.ifCond .eq 7, 39, 0, 0, .null)]
theorem kX11_foretold_32 : kx_oks kxL_X11 false cX11_foretold 32 bX11_foretold_32 = true := by decide +kernel
def bX11_foretold_35 : List kx_O := [(.iconst 1, 0, 0, 0, .int 1), (.goto 4, 40, 0, 0, .null)]
theorem kX11_foretold_35 : kx_oks kxL_X11 false cX11_foretold 35 bX11_foretold_35 = true := by decide +kernel
def bX11_foretold_39 : List kx_O := [(.iconst 0, 0, 0, 0, .int 0)]
theorem kX11_foretold_39 : kx_oks kxL_X11 false cX11_foretold 39 bX11_foretold_39 = true := by decide +kernel
def bX11_foretold_40 : List kx_O := [(.iconst 2, 0, 0, 0, .int 2)]
theorem kX11_foretold_40 : kx_oks kxL_X11 false cX11_foretold 40 bX11_foretold_40 = true := by decide +kernel
def bX11_foretold_44 : List kx_O := [(.ifCond .eq 27, 71, 0, 0, .null)]
theorem kX11_foretold_44 : kx_oks kxL_X11 false cX11_foretold 44 bX11_foretold_44 = true := by decide +kernel
def bX11_foretold_47 : List kx_O := [(.aload_n 0, 0, 0, 0, .null), (.aload_n 0, 0, 0, 0, .null), (.getfield 182, 11, 1, 0, .null), (.iload_n 2, 2, 0, 0, .null), (.iadd, 0, 0, 0, .null), (.ldc 223, 0, 0, 0, .int (100000)), (.if_icmp .gt 7, 63, 0, 0, .null)]
theorem kX11_foretold_47 : kx_oks kxL_X11 false cX11_foretold 47 bX11_foretold_47 = true := by decide +kernel
def bX11_foretold_59 : List kx_O := [(.iconst 1, 0, 0, 0, .int 1), (.goto 4, 64, 0, 0, .null)]
theorem kX11_foretold_59 : kx_oks kxL_X11 false cX11_foretold 59 bX11_foretold_59 = true := by decide +kernel
def bX11_foretold_63 : List kx_O := [(.iconst 0, 0, 0, 0, .int 0)]
theorem kX11_foretold_63 : kx_oks kxL_X11 false cX11_foretold 63 bX11_foretold_63 = true := by decide +kernel
def bX11_foretold_64 : List kx_O := [(.iconst 3, 0, 0, 0, .int 3)]
theorem kX11_foretold_64 : kx_oks kxL_X11 false cX11_foretold 64 bX11_foretold_64 = true := by decide +kernel
def bX11_foretold_68 : List kx_O := [(.ifCond .ne 5, 73, 0, 0, .null)]
theorem kX11_foretold_68 : kx_oks kxL_X11 false cX11_foretold 68 bX11_foretold_68 = true := by decide +kernel
def bX11_foretold_71 : List kx_O := [(.iconst 0, 0, 0, 0, .int 0), (.ireturn, 0, 0, 0, .null)]
theorem kX11_foretold_71 : kx_oks kxL_X11 false cX11_foretold 71 bX11_foretold_71 = true := by decide +kernel
def bX11_foretold_73 : List kx_O := [(.aload_n 0, 0, 0, 0, .null), (.aload_n 0, 0, 0, 0, .null), (.getfield 182, 11, 1, 0, .null), (.putfield 570, 11, 84, 0, .null), (.aload_n 0, 0, 0, 0, .null), (.iconst 0, 0, 0, 0, .int 0)]
theorem kX11_foretold_73 : kx_oks kxL_X11 false cX11_foretold 73 bX11_foretold_73 = true := by decide +kernel
def bX11_foretold_86 : List kx_O := [(.aload_n 0, 0, 0, 0, .null), (.iconst 1, 0, 0, 0, .int 1), (.putfield 412, 11, 49, 2, .null), (.aload_n 0, 0, 0, 0, .null), (.iload_n 1, 1, 0, 0, .null), (.putfield 415, 11, 50, 0, .null), (.aload_n 0, 0, 0, 0, .null), (.iconst 0, 0, 0, 0, .int 0), (.putfield 418, 11, 51, 0, .null), (.aload_n 0, 0, 0, 0, .null), (.iconst 0, 0, 0, 0, .int 0), (.putfield 421, 11, 52, 0, .null), (.iconst 0, 0, 0, 0, .int 0), (.istore 4, 4, 0, 0, .null)]
theorem kX11_foretold_86 : kx_oks kxL_X11 false cX11_foretold 86 bX11_foretold_86 = true := by decide +kernel
def bX11_foretold_109 : List kx_O := [(.iload 4, 4, 0, 0, .null), (.iload_n 2, 2, 0, 0, .null), (.if_icmp .ge 13, 125, 0, 0, .null)]
theorem kX11_foretold_109 : kx_oks kxL_X11 false cX11_foretold 109 bX11_foretold_109 = true := by decide +kernel
def bX11_foretold_115 : List kx_O := [(.aload_n 0, 0, 0, 0, .null)]
theorem kX11_foretold_115 : kx_oks kxL_X11 false cX11_foretold 115 bX11_foretold_115 = true := by decide +kernel
def bX11_foretold_119 : List kx_O := [(.iinc 4 1, 4, 0, 0, .int 1), (.goto (-13), 109, 0, 0, .null)]
theorem kX11_foretold_119 : kx_oks kxL_X11 false cX11_foretold 119 bX11_foretold_119 = true := by decide +kernel
def bX11_foretold_125 : List kx_O := [(.aload_n 0, 0, 0, 0, .null), (.iload_n 1, 1, 0, 0, .null), (.iload_n 3, 3, 0, 0, .null)]
theorem kX11_foretold_125 : kx_oks kxL_X11 false cX11_foretold 125 bX11_foretold_125 = true := by decide +kernel
def bX11_foretold_131 : List kx_O := [(.istore 4, 4, 0, 0, .null), (.aload_n 0, 0, 0, 0, .null), (.iconst 0, 0, 0, 0, .int 0), (.putfield 412, 11, 49, 2, .null), (.aload_n 0, 0, 0, 0, .null), (.iconst 1, 0, 0, 0, .int 1)]
theorem kX11_foretold_131 : kx_oks kxL_X11 false cX11_foretold 131 bX11_foretold_131 = true := by decide +kernel
def bX11_foretold_143 : List kx_O := [(.aload_n 0, 0, 0, 0, .null), (.aload_n 0, 0, 0, 0, .null), (.getfield 570, 11, 84, 0, .null), (.putfield 182, 11, 1, 0, .null), (.iload 4, 4, 0, 0, .null), (.ireturn, 0, 0, 0, .null)]
theorem kX11_foretold_143 : kx_oks kxL_X11 false cX11_foretold 143 bX11_foretold_143 = true := by decide +kernel
theorem dX11_foretold_7 : decode cX11_foretold 7 = .ok (.invokevirtual 358, 3) := by decide +kernel
theorem dX11_foretold_19 : decode cX11_foretold 19 = .ok (.invokestatic 167, 3) := by decide +kernel
theorem dX11_foretold_29 : decode cX11_foretold 29 = .ok (.invokestatic 167, 3) := by decide +kernel
theorem dX11_foretold_41 : decode cX11_foretold 41 = .ok (.invokevirtual 171, 3) := by decide +kernel
theorem dX11_foretold_65 : decode cX11_foretold 65 = .ok (.invokevirtual 171, 3) := by decide +kernel
theorem dX11_foretold_83 : decode cX11_foretold 83 = .ok (.invokevirtual 573, 3) := by decide +kernel
theorem dX11_foretold_116 : decode cX11_foretold 116 = .ok (.invokevirtual 432, 3) := by decide +kernel
theorem dX11_foretold_128 : decode cX11_foretold 128 = .ok (.invokevirtual 577, 3) := by decide +kernel
theorem dX11_foretold_140 : decode cX11_foretold 140 = .ok (.invokevirtual 573, 3) := by decide +kernel
set_option maxRecDepth 100000 in
set_option maxHeartbeats 4000000 in
theorem ct_X11_foretold_t (l : Launch) (G : kx_G) {M : Nat → Int32} {A : Nat → Nat → Int32} {L : Nat → Nat → Int64} {R : kx_P} {sz : Nat} {cl sd mi k w : Nat} {c : Nat} (h21 : M 21 = nI cl) (hcl : cl ≤ 8) (hc : c < cl) (h1 : M 1 = nI mi) (hk : 1 ≤ k ∧ k ≤ 3000) (hw : w ≤ 6) (hmk : mi + k ≤ 100000) (hsd : sd + 8 * 100000 < 2 ^ 29) (hI : ck_iv cl sd (M, A, L))  : kx_M l G sX11_foretold 6 0 0 [.ref 93, .int (nI c), .int (nI k), .int (nI w)] (mW M A L R) sz (some (.int (ck_seenV (ck_mns (ck_fS M A L cl c) cl k) c w))) (ck_W (ck_fo M A L cl c k) R) sz := by
  have zm : 1 ≤ nI k ∧ nI k ≤ 3000 := ⟨nI_le (a := 1) hk.1 (by omega), nI_le (b := 3000) hk.2 (by decide)⟩
  have zw : 0 ≤ nI w ∧ nI w ≤ 6 := ⟨nI_pos' (by omega), nI_le (b := 6) hw (by decide)⟩
  have zI := fun n => ck_mns_iv (ck_iv_fS (c := c) (k := cl) hI) (show (ck_fS M A L cl c).1 1 = nI mi from h1) n
  have z21 : ∀ n, (ck_mns (ck_fS M A L cl c) cl n).1 21 = nI cl := fun n => (ck_mns_M (by decide) (by decide) (by decide) (by decide) (by decide) (by decide) n).trans h21
  have z84 : ∀ n, (ck_mns (ck_fS M A L cl c) cl n).1 84 = nI mi := fun n => (ck_mns_M (by decide) (by decide) (by decide) (by decide) (by decide) (by decide) n).trans h1
  have z1 : ∀ n, mi + n ≤ 100000 → (ck_mns (ck_fS M A L cl c) cl n).1 1 = nI (mi + n) := fun n hn => (zI n hn).2
  have zs : ∀ i, i ≤ 100000 → sd + i * cl < 2 ^ 29 := fun i hi => by
    have : i * cl ≤ 100000 * 8 := Nat.mul_le_mul hi hcl
    omega
  refine kx_mk kx_tab kxLok_X11 (ini := false) [some (.ref 93), some (.int (nI c)), some (.int (nI k)), some (.int (nI w)), none] ⟨by decide, rfl, by decide, by decide⟩ (⟨_, rfl⟩) rfl rfl (fun g hB hC => ?_)
  have loop109 : ∀ (n9 : Nat) (i : Nat), i + n9 = k → g 109 [some (.ref 93), some (.int (nI c)), some (.int (nI k)), some (.int (nI w)), some (.int (nI i))] [] (ck_W (ck_mns (ck_fS M A L cl c) cl i) R) sz 0 0 := by
    intro n9
    induction n9 with
    | zero =>
      intro i hi
      obtain rfl : k = i := by omega
      refine hB bX11_foretold_109 _ _ _ _ _ _ _ kX11_foretold_109 ?_
      dsimp only [bX11_foretold_109, kx_wp, kx_step, kx_lI, kx_lL, kx_lA, kx_gl, kx_pI, kx_pL, kx_pR, kx_pA, kx_pV, kx_s1, kx_s2, kx_sl, kx_pre, kx_c2, kx_pl, kx_cmp, kx_oF, kx_eqN, kx_nil, kx_c1, kx_ft, kx_aI, kx_aL, kx_aR, kx_ln, Nat.reduceAdd, Option.toList, List.cons_append, List.nil_append, mW_o, mf_0, mf_1, mf_84, mf_49, mf_50, mf_51, mf_52]
      repeat (simp only [mu_0, mW_so, mu_84, mu_49, mu_50, mu_51, mu_52, mu_1, show upd M 0 0 1 = M 1 from rfl, show upd M 0 0 84 = M 84 from rfl, show upd M 0 0 49 = M 49 from rfl, show upd M 0 0 50 = M 50 from rfl, show upd M 0 0 51 = M 51 from rfl, show upd M 0 0 52 = M 52 from rfl, h1, nI_add, nI_1, z84, show ∀ F9 : Nat → Int32, upd F9 49 0 84 = F9 84 from fun _ => rfl]; try dsimp only [kx_wp, kx_step, kx_lI, kx_lL, kx_lA, kx_gl, kx_pI, kx_pL, kx_pR, kx_pA, kx_pV, kx_s1, kx_s2, kx_sl, kx_pre, kx_c2, kx_pl, kx_cmp, kx_oF, kx_eqN, kx_nil, kx_c1, kx_ft, kx_aI, kx_aL, kx_aR, kx_ln, Nat.reduceAdd, Option.toList, List.cons_append, List.nil_append, mW_o, mf_0, mf_1, mf_84, mf_49, mf_50, mf_51, mf_52])
      repeat' apply And.intro
      all_goals try (first | with_reducible assumption | (with_reducible refine ck_nzI ?_; simp; done) | (with_reducible refine ck_nzL ?_; simp; done) | (with_reducible refine vp_in_nI ?_ ?_ <;> first | omega | decide) | (with_reducible refine Nat.le_of_ble_eq_true ?_; rfl) | omega | exact Or.inr True.intro | exact Or.inl True.intro | exact Or.inl rfl | exact Or.inr rfl)
      · intro zc112
        with_reducible first | have ze112 := Int32.not_lt.mpr zc112 | have ze112 := zc112
        refine hB bX11_foretold_125 _ _ _ _ _ _ _ kX11_foretold_125 ?_
        dsimp only [bX11_foretold_125, kx_wp, kx_step, kx_lI, kx_lL, kx_lA, kx_gl, kx_pI, kx_pL, kx_pR, kx_pA, kx_pV, kx_s1, kx_s2, kx_sl, kx_pre, kx_c2, kx_pl, kx_cmp, kx_oF, kx_eqN, kx_nil, kx_c1, kx_ft, kx_aI, kx_aL, kx_aR, kx_ln, Nat.reduceAdd, Option.toList, List.cons_append, List.nil_append, mW_o, mf_0, mf_1, mf_84, mf_49, mf_50, mf_51, mf_52]
        repeat (simp only [mu_0, mW_so, mu_84, mu_49, mu_50, mu_51, mu_52, mu_1, show upd M 0 0 1 = M 1 from rfl, show upd M 0 0 84 = M 84 from rfl, show upd M 0 0 49 = M 49 from rfl, show upd M 0 0 50 = M 50 from rfl, show upd M 0 0 51 = M 51 from rfl, show upd M 0 0 52 = M 52 from rfl, h1, nI_add, nI_1, z84, show ∀ F9 : Nat → Int32, upd F9 49 0 84 = F9 84 from fun _ => rfl]; try dsimp only [kx_wp, kx_step, kx_lI, kx_lL, kx_lA, kx_gl, kx_pI, kx_pL, kx_pR, kx_pA, kx_pV, kx_s1, kx_s2, kx_sl, kx_pre, kx_c2, kx_pl, kx_cmp, kx_oF, kx_eqN, kx_nil, kx_c1, kx_ft, kx_aI, kx_aL, kx_aR, kx_ln, Nat.reduceAdd, Option.toList, List.cons_append, List.nil_append, mW_o, mf_0, mf_1, mf_84, mf_49, mf_50, mf_51, mf_52])
        repeat' apply And.intro
        all_goals try (first | with_reducible assumption | (with_reducible refine ck_nzI ?_; simp; done) | (with_reducible refine ck_nzL ?_; simp; done) | (with_reducible refine vp_in_nI ?_ ?_ <;> first | omega | decide) | (with_reducible refine Nat.le_of_ble_eq_true ?_; rfl) | omega | exact Or.inr True.intro | exact Or.inl True.intro | exact Or.inl rfl | exact Or.inr rfl)
        refine hC.1 577 _ _ _ _ _ _ _ 11 _ _ _ _ _ _ _ _ _ _ _ _ lX11_577 (ct_X11_seen l G (S := ck_mns (ck_fS M A L cl c) cl k) (by omega) hw) ⟨by decide, rfl⟩ (mW_o) rfl rfl (Nat.le_of_ble_eq_true rfl) (by decide) (by decide) (by omega) (by omega) dX11_foretold_128 ?_
        dsimp only [ck_W]
        refine hB bX11_foretold_131 _ _ _ _ _ _ _ kX11_foretold_131 ?_
        dsimp only [bX11_foretold_131, kx_wp, kx_step, kx_lI, kx_lL, kx_lA, kx_gl, kx_pI, kx_pL, kx_pR, kx_pA, kx_pV, kx_s1, kx_s2, kx_sl, kx_pre, kx_c2, kx_pl, kx_cmp, kx_oF, kx_eqN, kx_nil, kx_c1, kx_ft, kx_aI, kx_aL, kx_aR, kx_ln, Nat.reduceAdd, Option.toList, List.cons_append, List.nil_append, mW_o, mf_0, mf_1, mf_84, mf_49, mf_50, mf_51, mf_52]
        repeat (simp only [mu_0, mW_so, mu_84, mu_49, mu_50, mu_51, mu_52, mu_1, show upd M 0 0 1 = M 1 from rfl, show upd M 0 0 84 = M 84 from rfl, show upd M 0 0 49 = M 49 from rfl, show upd M 0 0 50 = M 50 from rfl, show upd M 0 0 51 = M 51 from rfl, show upd M 0 0 52 = M 52 from rfl, h1, nI_add, nI_1, z84, show ∀ F9 : Nat → Int32, upd F9 49 0 84 = F9 84 from fun _ => rfl]; try dsimp only [kx_wp, kx_step, kx_lI, kx_lL, kx_lA, kx_gl, kx_pI, kx_pL, kx_pR, kx_pA, kx_pV, kx_s1, kx_s2, kx_sl, kx_pre, kx_c2, kx_pl, kx_cmp, kx_oF, kx_eqN, kx_nil, kx_c1, kx_ft, kx_aI, kx_aL, kx_aR, kx_ln, Nat.reduceAdd, Option.toList, List.cons_append, List.nil_append, mW_o, mf_0, mf_1, mf_84, mf_49, mf_50, mf_51, mf_52])
        repeat' apply And.intro
        all_goals try (first | with_reducible assumption | (with_reducible refine ck_nzI ?_; simp; done) | (with_reducible refine ck_nzL ?_; simp; done) | (with_reducible refine vp_in_nI ?_ ?_ <;> first | omega | decide) | (with_reducible refine Nat.le_of_ble_eq_true ?_; rfl) | omega | exact Or.inr True.intro | exact Or.inl True.intro | exact Or.inl rfl | exact Or.inr rfl)
        refine hC.1 573 _ _ _ _ _ _ _ 11 _ _ _ _ _ _ _ _ _ _ _ _ lX11_573 (ct_X11_puts_r l G (M := upd (ck_mns (ck_fS M A L cl c) cl k).1 49 0) (A := (ck_mns (ck_fS M A L cl c) cl k).2.1) (L := (ck_mns (ck_fS M A L cl c) cl k).2.2) (z21 k) hcl) ⟨by decide, rfl⟩ (mW_o) rfl rfl (Nat.le_of_ble_eq_true rfl) (by decide) (by decide) (by omega) (by omega) dX11_foretold_140 ?_
        refine hB bX11_foretold_143 _ _ _ _ _ _ _ kX11_foretold_143 ?_
        dsimp only [bX11_foretold_143, kx_wp, kx_step, kx_lI, kx_lL, kx_lA, kx_gl, kx_pI, kx_pL, kx_pR, kx_pA, kx_pV, kx_s1, kx_s2, kx_sl, kx_pre, kx_c2, kx_pl, kx_cmp, kx_oF, kx_eqN, kx_nil, kx_c1, kx_ft, kx_aI, kx_aL, kx_aR, kx_ln, Nat.reduceAdd, Option.toList, List.cons_append, List.nil_append, mW_o, mf_0, mf_1, mf_84, mf_49, mf_50, mf_51, mf_52]
        repeat (simp only [mu_0, mW_so, mu_84, mu_49, mu_50, mu_51, mu_52, mu_1, show upd M 0 0 1 = M 1 from rfl, show upd M 0 0 84 = M 84 from rfl, show upd M 0 0 49 = M 49 from rfl, show upd M 0 0 50 = M 50 from rfl, show upd M 0 0 51 = M 51 from rfl, show upd M 0 0 52 = M 52 from rfl, h1, nI_add, nI_1, z84, show ∀ F9 : Nat → Int32, upd F9 49 0 84 = F9 84 from fun _ => rfl]; try dsimp only [kx_wp, kx_step, kx_lI, kx_lL, kx_lA, kx_gl, kx_pI, kx_pL, kx_pR, kx_pA, kx_pV, kx_s1, kx_s2, kx_sl, kx_pre, kx_c2, kx_pl, kx_cmp, kx_oF, kx_eqN, kx_nil, kx_c1, kx_ft, kx_aI, kx_aL, kx_aR, kx_ln, Nat.reduceAdd, Option.toList, List.cons_append, List.nil_append, mW_o, mf_0, mf_1, mf_84, mf_49, mf_50, mf_51, mf_52])
        all_goals (repeat' apply And.intro)
        all_goals ((try clear hB hC); first | exact True.intro | with_reducible rfl | with_reducible assumption | (with_reducible refine vp_in_nI ?_ ?_ <;> first | omega | decide) | exact Nat.le_of_ble_eq_true rfl | (with_reducible refine ck_nzI ?_; simp; done) | (with_reducible refine ck_nzL ?_; simp; done) | (simp only [pk_us, pk_uLs, ck_W, ck_fo, h1, zc112, ze112, ↓reduceIte, not_true_eq_false, not_false_eq_true]; done) | (simp only [ck_W, ck_fo, h1, zc112, ze112, ↓reduceIte, not_true_eq_false, not_false_eq_true]; with_reducible rfl) | skip)
      · intro zc112
        first | exact absurd rfl zc112 | exact absurd zc112 (by decide) | exact absurd (by decide) zc112 | (exfalso; first | exact absurd zc112 (by first | (simp only [nI_leI (show k < 2 ^ 31 by omega) (show i < 2 ^ 31 by omega)]; omega) | (simp only [nI_leI (show k < 2 ^ 31 by omega) (show i < 2 ^ 31 by omega), Decidable.not_not]; omega))) | (exfalso; simp_all; done)
    | succ n9 ih =>
      intro i hi
      refine hB bX11_foretold_109 _ _ _ _ _ _ _ kX11_foretold_109 ?_
      dsimp only [bX11_foretold_109, kx_wp, kx_step, kx_lI, kx_lL, kx_lA, kx_gl, kx_pI, kx_pL, kx_pR, kx_pA, kx_pV, kx_s1, kx_s2, kx_sl, kx_pre, kx_c2, kx_pl, kx_cmp, kx_oF, kx_eqN, kx_nil, kx_c1, kx_ft, kx_aI, kx_aL, kx_aR, kx_ln, Nat.reduceAdd, Option.toList, List.cons_append, List.nil_append, mW_o, mf_0, mf_1, mf_84, mf_49, mf_50, mf_51, mf_52]
      repeat (simp only [mu_0, mW_so, mu_84, mu_49, mu_50, mu_51, mu_52, mu_1, show upd M 0 0 1 = M 1 from rfl, show upd M 0 0 84 = M 84 from rfl, show upd M 0 0 49 = M 49 from rfl, show upd M 0 0 50 = M 50 from rfl, show upd M 0 0 51 = M 51 from rfl, show upd M 0 0 52 = M 52 from rfl, h1, nI_add, nI_1, z84, show ∀ F9 : Nat → Int32, upd F9 49 0 84 = F9 84 from fun _ => rfl]; try dsimp only [kx_wp, kx_step, kx_lI, kx_lL, kx_lA, kx_gl, kx_pI, kx_pL, kx_pR, kx_pA, kx_pV, kx_s1, kx_s2, kx_sl, kx_pre, kx_c2, kx_pl, kx_cmp, kx_oF, kx_eqN, kx_nil, kx_c1, kx_ft, kx_aI, kx_aL, kx_aR, kx_ln, Nat.reduceAdd, Option.toList, List.cons_append, List.nil_append, mW_o, mf_0, mf_1, mf_84, mf_49, mf_50, mf_51, mf_52])
      repeat' apply And.intro
      all_goals try (first | with_reducible assumption | (with_reducible refine ck_nzI ?_; simp; done) | (with_reducible refine ck_nzL ?_; simp; done) | (with_reducible refine vp_in_nI ?_ ?_ <;> first | omega | decide) | (with_reducible refine Nat.le_of_ble_eq_true ?_; rfl) | omega | exact Or.inr True.intro | exact Or.inl True.intro | exact Or.inl rfl | exact Or.inr rfl)
      · intro zc112
        first | exact absurd rfl zc112 | exact absurd zc112 (by decide) | exact absurd (by decide) zc112 | (exfalso; first | exact absurd zc112 (by first | (simp only [nI_leI (show k < 2 ^ 31 by omega) (show i < 2 ^ 31 by omega)]; omega) | (simp only [nI_leI (show k < 2 ^ 31 by omega) (show i < 2 ^ 31 by omega), Decidable.not_not]; omega))) | (exfalso; simp_all; done)
      · intro zc112
        with_reducible first | have ze112 := Int32.not_le.mp zc112 | have ze112 := zc112
        refine hB bX11_foretold_115 _ _ _ _ _ _ _ kX11_foretold_115 ?_
        dsimp only [bX11_foretold_115, kx_wp, kx_step, kx_lI, kx_lL, kx_lA, kx_gl, kx_pI, kx_pL, kx_pR, kx_pA, kx_pV, kx_s1, kx_s2, kx_sl, kx_pre, kx_c2, kx_pl, kx_cmp, kx_oF, kx_eqN, kx_nil, kx_c1, kx_ft, kx_aI, kx_aL, kx_aR, kx_ln, Nat.reduceAdd, Option.toList, List.cons_append, List.nil_append, mW_o, mf_0, mf_1, mf_84, mf_49, mf_50, mf_51, mf_52]
        repeat (simp only [mu_0, mW_so, mu_84, mu_49, mu_50, mu_51, mu_52, mu_1, show upd M 0 0 1 = M 1 from rfl, show upd M 0 0 84 = M 84 from rfl, show upd M 0 0 49 = M 49 from rfl, show upd M 0 0 50 = M 50 from rfl, show upd M 0 0 51 = M 51 from rfl, show upd M 0 0 52 = M 52 from rfl, h1, nI_add, nI_1, z84, show ∀ F9 : Nat → Int32, upd F9 49 0 84 = F9 84 from fun _ => rfl]; try dsimp only [kx_wp, kx_step, kx_lI, kx_lL, kx_lA, kx_gl, kx_pI, kx_pL, kx_pR, kx_pA, kx_pV, kx_s1, kx_s2, kx_sl, kx_pre, kx_c2, kx_pl, kx_cmp, kx_oF, kx_eqN, kx_nil, kx_c1, kx_ft, kx_aI, kx_aL, kx_aR, kx_ln, Nat.reduceAdd, Option.toList, List.cons_append, List.nil_append, mW_o, mf_0, mf_1, mf_84, mf_49, mf_50, mf_51, mf_52])
        repeat' apply And.intro
        all_goals try (first | with_reducible assumption | (with_reducible refine ck_nzI ?_; simp; done) | (with_reducible refine ck_nzL ?_; simp; done) | (with_reducible refine vp_in_nI ?_ ?_ <;> first | omega | decide) | (with_reducible refine Nat.le_of_ble_eq_true ?_; rfl) | omega | exact Or.inr True.intro | exact Or.inl True.intro | exact Or.inl rfl | exact Or.inr rfl)
        refine hC.1 432 _ _ _ _ _ _ _ 11 _ _ _ _ _ _ _ _ _ _ _ _ lX11_432 (ct_X11_minuteGoes l G (S := ck_mns (ck_fS M A L cl c) cl i) (mi := mi + i) (sd := sd + i * cl) (z21 i) hcl (z1 i (by omega)) (by omega) (zs i (by omega)) (zI i (by omega)).1) ⟨by decide, rfl⟩ (mW_o) rfl rfl (Nat.le_of_ble_eq_true rfl) (by decide) (by decide) (by omega) (by omega) dX11_foretold_116 ?_
        dsimp only [ck_W]
        rw [ck_mns_s]
        refine hB bX11_foretold_119 _ _ _ _ _ _ _ kX11_foretold_119 ?_
        dsimp only [bX11_foretold_119, kx_wp, kx_step, kx_lI, kx_lL, kx_lA, kx_gl, kx_pI, kx_pL, kx_pR, kx_pA, kx_pV, kx_s1, kx_s2, kx_sl, kx_pre, kx_c2, kx_pl, kx_cmp, kx_oF, kx_eqN, kx_nil, kx_c1, kx_ft, kx_aI, kx_aL, kx_aR, kx_ln, Nat.reduceAdd, Option.toList, List.cons_append, List.nil_append, mW_o, mf_0, mf_1, mf_84, mf_49, mf_50, mf_51, mf_52]
        repeat (simp only [mu_0, mW_so, mu_84, mu_49, mu_50, mu_51, mu_52, mu_1, show upd M 0 0 1 = M 1 from rfl, show upd M 0 0 84 = M 84 from rfl, show upd M 0 0 49 = M 49 from rfl, show upd M 0 0 50 = M 50 from rfl, show upd M 0 0 51 = M 51 from rfl, show upd M 0 0 52 = M 52 from rfl, h1, nI_add, nI_1, z84, show ∀ F9 : Nat → Int32, upd F9 49 0 84 = F9 84 from fun _ => rfl]; try dsimp only [kx_wp, kx_step, kx_lI, kx_lL, kx_lA, kx_gl, kx_pI, kx_pL, kx_pR, kx_pA, kx_pV, kx_s1, kx_s2, kx_sl, kx_pre, kx_c2, kx_pl, kx_cmp, kx_oF, kx_eqN, kx_nil, kx_c1, kx_ft, kx_aI, kx_aL, kx_aR, kx_ln, Nat.reduceAdd, Option.toList, List.cons_append, List.nil_append, mW_o, mf_0, mf_1, mf_84, mf_49, mf_50, mf_51, mf_52])
        repeat' apply And.intro
        all_goals try (first | with_reducible assumption | (with_reducible refine ck_nzI ?_; simp; done) | (with_reducible refine ck_nzL ?_; simp; done) | (with_reducible refine vp_in_nI ?_ ?_ <;> first | omega | decide) | (with_reducible refine Nat.le_of_ble_eq_true ?_; rfl) | omega | exact Or.inr True.intro | exact Or.inl True.intro | exact Or.inl rfl | exact Or.inr rfl)
        exact ih (i + 1) (by omega)
  refine hB bX11_foretold_0 _ _ _ _ _ _ _ kX11_foretold_0 ?_
  dsimp only [bX11_foretold_0, kx_wp, kx_step, kx_lI, kx_lL, kx_lA, kx_gl, kx_pI, kx_pL, kx_pR, kx_pA, kx_pV, kx_s1, kx_s2, kx_sl, kx_pre, kx_c2, kx_pl, kx_cmp, kx_oF, kx_eqN, kx_nil, kx_c1, kx_ft, kx_aI, kx_aL, kx_aR, kx_ln, Nat.reduceAdd, Option.toList, List.cons_append, List.nil_append, mW_o, mf_0, mf_1, mf_84, mf_49, mf_50, mf_51, mf_52]
  repeat (simp only [mu_0, mW_so, mu_84, mu_49, mu_50, mu_51, mu_52, mu_1, show upd M 0 0 1 = M 1 from rfl, show upd M 0 0 84 = M 84 from rfl, show upd M 0 0 49 = M 49 from rfl, show upd M 0 0 50 = M 50 from rfl, show upd M 0 0 51 = M 51 from rfl, show upd M 0 0 52 = M 52 from rfl, h1, nI_add, nI_1]; try dsimp only [kx_wp, kx_step, kx_lI, kx_lL, kx_lA, kx_gl, kx_pI, kx_pL, kx_pR, kx_pA, kx_pV, kx_s1, kx_s2, kx_sl, kx_pre, kx_c2, kx_pl, kx_cmp, kx_oF, kx_eqN, kx_nil, kx_c1, kx_ft, kx_aI, kx_aL, kx_aR, kx_ln, Nat.reduceAdd, Option.toList, List.cons_append, List.nil_append, mW_o, mf_0, mf_1, mf_84, mf_49, mf_50, mf_51, mf_52])
  repeat' apply And.intro
  all_goals try (first | with_reducible assumption | (with_reducible refine ck_nzI ?_; simp; done) | (with_reducible refine ck_nzL ?_; simp; done) | (with_reducible refine vp_in_nI ?_ ?_ <;> first | omega | decide) | (with_reducible refine Nat.le_of_ble_eq_true ?_; rfl) | omega | exact Or.inr True.intro | exact Or.inl True.intro | exact Or.inl rfl | exact Or.inr rfl)
  refine hC.1 358 _ _ _ _ _ _ _ 11 _ _ _ _ _ _ _ _ _ _ _ _ lX11_358 (ct_X11_isClock_t l G (M := upd M 0 0) h21 hcl hc rfl) ⟨by decide, rfl⟩ (mW_o) rfl rfl (Nat.le_of_ble_eq_true rfl) (by decide) (by decide) (by omega) (by omega) dX11_foretold_7 ?_
  refine hB bX11_foretold_10 _ _ _ _ _ _ _ kX11_foretold_10 ?_
  dsimp only [bX11_foretold_10, kx_wp, kx_step, kx_lI, kx_lL, kx_lA, kx_gl, kx_pI, kx_pL, kx_pR, kx_pA, kx_pV, kx_s1, kx_s2, kx_sl, kx_pre, kx_c2, kx_pl, kx_cmp, kx_oF, kx_eqN, kx_nil, kx_c1, kx_ft, kx_aI, kx_aL, kx_aR, kx_ln, Nat.reduceAdd, Option.toList, List.cons_append, List.nil_append, mW_o, mf_0, mf_1, mf_84, mf_49, mf_50, mf_51, mf_52]
  repeat (simp only [mu_0, mW_so, mu_84, mu_49, mu_50, mu_51, mu_52, mu_1, show upd M 0 0 1 = M 1 from rfl, show upd M 0 0 84 = M 84 from rfl, show upd M 0 0 49 = M 49 from rfl, show upd M 0 0 50 = M 50 from rfl, show upd M 0 0 51 = M 51 from rfl, show upd M 0 0 52 = M 52 from rfl, h1, nI_add, nI_1]; try dsimp only [kx_wp, kx_step, kx_lI, kx_lL, kx_lA, kx_gl, kx_pI, kx_pL, kx_pR, kx_pA, kx_pV, kx_s1, kx_s2, kx_sl, kx_pre, kx_c2, kx_pl, kx_cmp, kx_oF, kx_eqN, kx_nil, kx_c1, kx_ft, kx_aI, kx_aL, kx_aR, kx_ln, Nat.reduceAdd, Option.toList, List.cons_append, List.nil_append, mW_o, mf_0, mf_1, mf_84, mf_49, mf_50, mf_51, mf_52])
  repeat' apply And.intro
  all_goals try (first | with_reducible assumption | (with_reducible refine ck_nzI ?_; simp; done) | (with_reducible refine ck_nzL ?_; simp; done) | (with_reducible refine vp_in_nI ?_ ?_ <;> first | omega | decide) | (with_reducible refine Nat.le_of_ble_eq_true ?_; rfl) | omega | exact Or.inr True.intro | exact Or.inl True.intro | exact Or.inl rfl | exact Or.inr rfl)
  · intro zc10
    first | exact absurd rfl zc10 | exact absurd zc10 (by decide) | exact absurd (by decide) zc10 | (exfalso; first | exact absurd zc22 (by decide) | exact absurd zc32 (by decide) | exact absurd zc56 (by rw [show (100000 : Int32) = nI 100000 from rfl, nI_ltI (by omega) (by omega)]; omega)) | (exfalso; simp_all; done)
  · intro zc10
    have ze10 := zc10
    refine hB bX11_foretold_13 _ _ _ _ _ _ _ kX11_foretold_13 ?_
    dsimp only [bX11_foretold_13, kx_wp, kx_step, kx_lI, kx_lL, kx_lA, kx_gl, kx_pI, kx_pL, kx_pR, kx_pA, kx_pV, kx_s1, kx_s2, kx_sl, kx_pre, kx_c2, kx_pl, kx_cmp, kx_oF, kx_eqN, kx_nil, kx_c1, kx_ft, kx_aI, kx_aL, kx_aR, kx_ln, Nat.reduceAdd, Option.toList, List.cons_append, List.nil_append, mW_o, mf_0, mf_1, mf_84, mf_49, mf_50, mf_51, mf_52]
    repeat (simp only [mu_0, mW_so, mu_84, mu_49, mu_50, mu_51, mu_52, mu_1, show upd M 0 0 1 = M 1 from rfl, show upd M 0 0 84 = M 84 from rfl, show upd M 0 0 49 = M 49 from rfl, show upd M 0 0 50 = M 50 from rfl, show upd M 0 0 51 = M 51 from rfl, show upd M 0 0 52 = M 52 from rfl, h1, nI_add, nI_1]; try dsimp only [kx_wp, kx_step, kx_lI, kx_lL, kx_lA, kx_gl, kx_pI, kx_pL, kx_pR, kx_pA, kx_pV, kx_s1, kx_s2, kx_sl, kx_pre, kx_c2, kx_pl, kx_cmp, kx_oF, kx_eqN, kx_nil, kx_c1, kx_ft, kx_aI, kx_aL, kx_aR, kx_ln, Nat.reduceAdd, Option.toList, List.cons_append, List.nil_append, mW_o, mf_0, mf_1, mf_84, mf_49, mf_50, mf_51, mf_52])
    repeat' apply And.intro
    all_goals try (first | with_reducible assumption | (with_reducible refine ck_nzI ?_; simp; done) | (with_reducible refine ck_nzL ?_; simp; done) | (with_reducible refine vp_in_nI ?_ ?_ <;> first | omega | decide) | (with_reducible refine Nat.le_of_ble_eq_true ?_; rfl) | omega | exact Or.inr True.intro | exact Or.inl True.intro | exact Or.inl rfl | exact Or.inr rfl)
    refine hC.2.1 167 _ _ _ _ _ _ _ _ _ _ _ _ _ _ _ _ _ lX11_167 (ct_X11_within l G) rfl rfl (Nat.le_of_ble_eq_true rfl) (by decide) (by decide) (by omega) (by omega) dX11_foretold_19 ?_
    rw [if_pos zm]
    refine hB bX11_foretold_22 _ _ _ _ _ _ _ kX11_foretold_22 ?_
    dsimp only [bX11_foretold_22, kx_wp, kx_step, kx_lI, kx_lL, kx_lA, kx_gl, kx_pI, kx_pL, kx_pR, kx_pA, kx_pV, kx_s1, kx_s2, kx_sl, kx_pre, kx_c2, kx_pl, kx_cmp, kx_oF, kx_eqN, kx_nil, kx_c1, kx_ft, kx_aI, kx_aL, kx_aR, kx_ln, Nat.reduceAdd, Option.toList, List.cons_append, List.nil_append, mW_o, mf_0, mf_1, mf_84, mf_49, mf_50, mf_51, mf_52]
    repeat (simp only [mu_0, mW_so, mu_84, mu_49, mu_50, mu_51, mu_52, mu_1, show upd M 0 0 1 = M 1 from rfl, show upd M 0 0 84 = M 84 from rfl, show upd M 0 0 49 = M 49 from rfl, show upd M 0 0 50 = M 50 from rfl, show upd M 0 0 51 = M 51 from rfl, show upd M 0 0 52 = M 52 from rfl, h1, nI_add, nI_1]; try dsimp only [kx_wp, kx_step, kx_lI, kx_lL, kx_lA, kx_gl, kx_pI, kx_pL, kx_pR, kx_pA, kx_pV, kx_s1, kx_s2, kx_sl, kx_pre, kx_c2, kx_pl, kx_cmp, kx_oF, kx_eqN, kx_nil, kx_c1, kx_ft, kx_aI, kx_aL, kx_aR, kx_ln, Nat.reduceAdd, Option.toList, List.cons_append, List.nil_append, mW_o, mf_0, mf_1, mf_84, mf_49, mf_50, mf_51, mf_52])
    repeat' apply And.intro
    all_goals try (first | with_reducible assumption | (with_reducible refine ck_nzI ?_; simp; done) | (with_reducible refine ck_nzL ?_; simp; done) | (with_reducible refine vp_in_nI ?_ ?_ <;> first | omega | decide) | (with_reducible refine Nat.le_of_ble_eq_true ?_; rfl) | omega | exact Or.inr True.intro | exact Or.inl True.intro | exact Or.inl rfl | exact Or.inr rfl)
    · intro zc22
      first | exact absurd rfl zc22 | exact absurd zc22 (by decide) | exact absurd (by decide) zc22 | (exfalso; first | exact absurd zc22 (by decide) | exact absurd zc32 (by decide) | exact absurd zc56 (by rw [show (100000 : Int32) = nI 100000 from rfl, nI_ltI (by omega) (by omega)]; omega)) | (exfalso; simp_all; done)
    · intro zc22
      have ze22 := zc22
      refine hB bX11_foretold_25 _ _ _ _ _ _ _ kX11_foretold_25 ?_
      dsimp only [bX11_foretold_25, kx_wp, kx_step, kx_lI, kx_lL, kx_lA, kx_gl, kx_pI, kx_pL, kx_pR, kx_pA, kx_pV, kx_s1, kx_s2, kx_sl, kx_pre, kx_c2, kx_pl, kx_cmp, kx_oF, kx_eqN, kx_nil, kx_c1, kx_ft, kx_aI, kx_aL, kx_aR, kx_ln, Nat.reduceAdd, Option.toList, List.cons_append, List.nil_append, mW_o, mf_0, mf_1, mf_84, mf_49, mf_50, mf_51, mf_52]
      repeat (simp only [mu_0, mW_so, mu_84, mu_49, mu_50, mu_51, mu_52, mu_1, show upd M 0 0 1 = M 1 from rfl, show upd M 0 0 84 = M 84 from rfl, show upd M 0 0 49 = M 49 from rfl, show upd M 0 0 50 = M 50 from rfl, show upd M 0 0 51 = M 51 from rfl, show upd M 0 0 52 = M 52 from rfl, h1, nI_add, nI_1]; try dsimp only [kx_wp, kx_step, kx_lI, kx_lL, kx_lA, kx_gl, kx_pI, kx_pL, kx_pR, kx_pA, kx_pV, kx_s1, kx_s2, kx_sl, kx_pre, kx_c2, kx_pl, kx_cmp, kx_oF, kx_eqN, kx_nil, kx_c1, kx_ft, kx_aI, kx_aL, kx_aR, kx_ln, Nat.reduceAdd, Option.toList, List.cons_append, List.nil_append, mW_o, mf_0, mf_1, mf_84, mf_49, mf_50, mf_51, mf_52])
      repeat' apply And.intro
      all_goals try (first | with_reducible assumption | (with_reducible refine ck_nzI ?_; simp; done) | (with_reducible refine ck_nzL ?_; simp; done) | (with_reducible refine vp_in_nI ?_ ?_ <;> first | omega | decide) | (with_reducible refine Nat.le_of_ble_eq_true ?_; rfl) | omega | exact Or.inr True.intro | exact Or.inl True.intro | exact Or.inl rfl | exact Or.inr rfl)
      refine hC.2.1 167 _ _ _ _ _ _ _ _ _ _ _ _ _ _ _ _ _ lX11_167 (ct_X11_within l G) rfl rfl (Nat.le_of_ble_eq_true rfl) (by decide) (by decide) (by omega) (by omega) dX11_foretold_29 ?_
      rw [if_pos zw]
      refine hB bX11_foretold_32 _ _ _ _ _ _ _ kX11_foretold_32 ?_
      dsimp only [bX11_foretold_32, kx_wp, kx_step, kx_lI, kx_lL, kx_lA, kx_gl, kx_pI, kx_pL, kx_pR, kx_pA, kx_pV, kx_s1, kx_s2, kx_sl, kx_pre, kx_c2, kx_pl, kx_cmp, kx_oF, kx_eqN, kx_nil, kx_c1, kx_ft, kx_aI, kx_aL, kx_aR, kx_ln, Nat.reduceAdd, Option.toList, List.cons_append, List.nil_append, mW_o, mf_0, mf_1, mf_84, mf_49, mf_50, mf_51, mf_52]
      repeat (simp only [mu_0, mW_so, mu_84, mu_49, mu_50, mu_51, mu_52, mu_1, show upd M 0 0 1 = M 1 from rfl, show upd M 0 0 84 = M 84 from rfl, show upd M 0 0 49 = M 49 from rfl, show upd M 0 0 50 = M 50 from rfl, show upd M 0 0 51 = M 51 from rfl, show upd M 0 0 52 = M 52 from rfl, h1, nI_add, nI_1]; try dsimp only [kx_wp, kx_step, kx_lI, kx_lL, kx_lA, kx_gl, kx_pI, kx_pL, kx_pR, kx_pA, kx_pV, kx_s1, kx_s2, kx_sl, kx_pre, kx_c2, kx_pl, kx_cmp, kx_oF, kx_eqN, kx_nil, kx_c1, kx_ft, kx_aI, kx_aL, kx_aR, kx_ln, Nat.reduceAdd, Option.toList, List.cons_append, List.nil_append, mW_o, mf_0, mf_1, mf_84, mf_49, mf_50, mf_51, mf_52])
      repeat' apply And.intro
      all_goals try (first | with_reducible assumption | (with_reducible refine ck_nzI ?_; simp; done) | (with_reducible refine ck_nzL ?_; simp; done) | (with_reducible refine vp_in_nI ?_ ?_ <;> first | omega | decide) | (with_reducible refine Nat.le_of_ble_eq_true ?_; rfl) | omega | exact Or.inr True.intro | exact Or.inl True.intro | exact Or.inl rfl | exact Or.inr rfl)
      · intro zc32
        first | exact absurd rfl zc32 | exact absurd zc32 (by decide) | exact absurd (by decide) zc32 | (exfalso; first | exact absurd zc22 (by decide) | exact absurd zc32 (by decide) | exact absurd zc56 (by rw [show (100000 : Int32) = nI 100000 from rfl, nI_ltI (by omega) (by omega)]; omega)) | (exfalso; simp_all; done)
      · intro zc32
        have ze32 := zc32
        refine hB bX11_foretold_35 _ _ _ _ _ _ _ kX11_foretold_35 ?_
        dsimp only [bX11_foretold_35, kx_wp, kx_step, kx_lI, kx_lL, kx_lA, kx_gl, kx_pI, kx_pL, kx_pR, kx_pA, kx_pV, kx_s1, kx_s2, kx_sl, kx_pre, kx_c2, kx_pl, kx_cmp, kx_oF, kx_eqN, kx_nil, kx_c1, kx_ft, kx_aI, kx_aL, kx_aR, kx_ln, Nat.reduceAdd, Option.toList, List.cons_append, List.nil_append, mW_o, mf_0, mf_1, mf_84, mf_49, mf_50, mf_51, mf_52]
        repeat (simp only [mu_0, mW_so, mu_84, mu_49, mu_50, mu_51, mu_52, mu_1, show upd M 0 0 1 = M 1 from rfl, show upd M 0 0 84 = M 84 from rfl, show upd M 0 0 49 = M 49 from rfl, show upd M 0 0 50 = M 50 from rfl, show upd M 0 0 51 = M 51 from rfl, show upd M 0 0 52 = M 52 from rfl, h1, nI_add, nI_1]; try dsimp only [kx_wp, kx_step, kx_lI, kx_lL, kx_lA, kx_gl, kx_pI, kx_pL, kx_pR, kx_pA, kx_pV, kx_s1, kx_s2, kx_sl, kx_pre, kx_c2, kx_pl, kx_cmp, kx_oF, kx_eqN, kx_nil, kx_c1, kx_ft, kx_aI, kx_aL, kx_aR, kx_ln, Nat.reduceAdd, Option.toList, List.cons_append, List.nil_append, mW_o, mf_0, mf_1, mf_84, mf_49, mf_50, mf_51, mf_52])
        repeat' apply And.intro
        all_goals try (first | with_reducible assumption | (with_reducible refine ck_nzI ?_; simp; done) | (with_reducible refine ck_nzL ?_; simp; done) | (with_reducible refine vp_in_nI ?_ ?_ <;> first | omega | decide) | (with_reducible refine Nat.le_of_ble_eq_true ?_; rfl) | omega | exact Or.inr True.intro | exact Or.inl True.intro | exact Or.inl rfl | exact Or.inr rfl)
        refine hB bX11_foretold_40 _ _ _ _ _ _ _ kX11_foretold_40 ?_
        dsimp only [bX11_foretold_40, kx_wp, kx_step, kx_lI, kx_lL, kx_lA, kx_gl, kx_pI, kx_pL, kx_pR, kx_pA, kx_pV, kx_s1, kx_s2, kx_sl, kx_pre, kx_c2, kx_pl, kx_cmp, kx_oF, kx_eqN, kx_nil, kx_c1, kx_ft, kx_aI, kx_aL, kx_aR, kx_ln, Nat.reduceAdd, Option.toList, List.cons_append, List.nil_append, mW_o, mf_0, mf_1, mf_84, mf_49, mf_50, mf_51, mf_52]
        repeat (simp only [mu_0, mW_so, mu_84, mu_49, mu_50, mu_51, mu_52, mu_1, show upd M 0 0 1 = M 1 from rfl, show upd M 0 0 84 = M 84 from rfl, show upd M 0 0 49 = M 49 from rfl, show upd M 0 0 50 = M 50 from rfl, show upd M 0 0 51 = M 51 from rfl, show upd M 0 0 52 = M 52 from rfl, h1, nI_add, nI_1]; try dsimp only [kx_wp, kx_step, kx_lI, kx_lL, kx_lA, kx_gl, kx_pI, kx_pL, kx_pR, kx_pA, kx_pV, kx_s1, kx_s2, kx_sl, kx_pre, kx_c2, kx_pl, kx_cmp, kx_oF, kx_eqN, kx_nil, kx_c1, kx_ft, kx_aI, kx_aL, kx_aR, kx_ln, Nat.reduceAdd, Option.toList, List.cons_append, List.nil_append, mW_o, mf_0, mf_1, mf_84, mf_49, mf_50, mf_51, mf_52])
        repeat' apply And.intro
        all_goals try (first | with_reducible assumption | (with_reducible refine ck_nzI ?_; simp; done) | (with_reducible refine ck_nzL ?_; simp; done) | (with_reducible refine vp_in_nI ?_ ?_ <;> first | omega | decide) | (with_reducible refine Nat.le_of_ble_eq_true ?_; rfl) | omega | exact Or.inr True.intro | exact Or.inl True.intro | exact Or.inl rfl | exact Or.inr rfl)
        refine hC.1 171 _ _ _ _ _ _ _ 11 _ _ _ _ _ _ _ _ _ _ _ _ lX11_171 (ct_X11_may_t l G (M := upd M 0 0) rfl) ⟨by decide, rfl⟩ (mW_o) rfl rfl (Nat.le_of_ble_eq_true rfl) (by decide) (by decide) (by omega) (by omega) dX11_foretold_41 ?_
        refine hB bX11_foretold_44 _ _ _ _ _ _ _ kX11_foretold_44 ?_
        dsimp only [bX11_foretold_44, kx_wp, kx_step, kx_lI, kx_lL, kx_lA, kx_gl, kx_pI, kx_pL, kx_pR, kx_pA, kx_pV, kx_s1, kx_s2, kx_sl, kx_pre, kx_c2, kx_pl, kx_cmp, kx_oF, kx_eqN, kx_nil, kx_c1, kx_ft, kx_aI, kx_aL, kx_aR, kx_ln, Nat.reduceAdd, Option.toList, List.cons_append, List.nil_append, mW_o, mf_0, mf_1, mf_84, mf_49, mf_50, mf_51, mf_52]
        repeat (simp only [mu_0, mW_so, mu_84, mu_49, mu_50, mu_51, mu_52, mu_1, show upd M 0 0 1 = M 1 from rfl, show upd M 0 0 84 = M 84 from rfl, show upd M 0 0 49 = M 49 from rfl, show upd M 0 0 50 = M 50 from rfl, show upd M 0 0 51 = M 51 from rfl, show upd M 0 0 52 = M 52 from rfl, h1, nI_add, nI_1]; try dsimp only [kx_wp, kx_step, kx_lI, kx_lL, kx_lA, kx_gl, kx_pI, kx_pL, kx_pR, kx_pA, kx_pV, kx_s1, kx_s2, kx_sl, kx_pre, kx_c2, kx_pl, kx_cmp, kx_oF, kx_eqN, kx_nil, kx_c1, kx_ft, kx_aI, kx_aL, kx_aR, kx_ln, Nat.reduceAdd, Option.toList, List.cons_append, List.nil_append, mW_o, mf_0, mf_1, mf_84, mf_49, mf_50, mf_51, mf_52])
        repeat' apply And.intro
        all_goals try (first | with_reducible assumption | (with_reducible refine ck_nzI ?_; simp; done) | (with_reducible refine ck_nzL ?_; simp; done) | (with_reducible refine vp_in_nI ?_ ?_ <;> first | omega | decide) | (with_reducible refine Nat.le_of_ble_eq_true ?_; rfl) | omega | exact Or.inr True.intro | exact Or.inl True.intro | exact Or.inl rfl | exact Or.inr rfl)
        · intro zc44
          first | exact absurd rfl zc44 | exact absurd zc44 (by decide) | exact absurd (by decide) zc44 | (exfalso; first | exact absurd zc22 (by decide) | exact absurd zc32 (by decide) | exact absurd zc56 (by rw [show (100000 : Int32) = nI 100000 from rfl, nI_ltI (by omega) (by omega)]; omega)) | (exfalso; simp_all; done)
        · intro zc44
          have ze44 := zc44
          refine hB bX11_foretold_47 _ _ _ _ _ _ _ kX11_foretold_47 ?_
          dsimp only [bX11_foretold_47, kx_wp, kx_step, kx_lI, kx_lL, kx_lA, kx_gl, kx_pI, kx_pL, kx_pR, kx_pA, kx_pV, kx_s1, kx_s2, kx_sl, kx_pre, kx_c2, kx_pl, kx_cmp, kx_oF, kx_eqN, kx_nil, kx_c1, kx_ft, kx_aI, kx_aL, kx_aR, kx_ln, Nat.reduceAdd, Option.toList, List.cons_append, List.nil_append, mW_o, mf_0, mf_1, mf_84, mf_49, mf_50, mf_51, mf_52]
          repeat (simp only [mu_0, mW_so, mu_84, mu_49, mu_50, mu_51, mu_52, mu_1, show upd M 0 0 1 = M 1 from rfl, show upd M 0 0 84 = M 84 from rfl, show upd M 0 0 49 = M 49 from rfl, show upd M 0 0 50 = M 50 from rfl, show upd M 0 0 51 = M 51 from rfl, show upd M 0 0 52 = M 52 from rfl, h1, nI_add, nI_1]; try dsimp only [kx_wp, kx_step, kx_lI, kx_lL, kx_lA, kx_gl, kx_pI, kx_pL, kx_pR, kx_pA, kx_pV, kx_s1, kx_s2, kx_sl, kx_pre, kx_c2, kx_pl, kx_cmp, kx_oF, kx_eqN, kx_nil, kx_c1, kx_ft, kx_aI, kx_aL, kx_aR, kx_ln, Nat.reduceAdd, Option.toList, List.cons_append, List.nil_append, mW_o, mf_0, mf_1, mf_84, mf_49, mf_50, mf_51, mf_52])
          repeat' apply And.intro
          all_goals try (first | with_reducible assumption | (with_reducible refine ck_nzI ?_; simp; done) | (with_reducible refine ck_nzL ?_; simp; done) | (with_reducible refine vp_in_nI ?_ ?_ <;> first | omega | decide) | (with_reducible refine Nat.le_of_ble_eq_true ?_; rfl) | omega | exact Or.inr True.intro | exact Or.inl True.intro | exact Or.inl rfl | exact Or.inr rfl)
          · intro zc56
            first | exact absurd rfl zc56 | exact absurd zc56 (by decide) | exact absurd (by decide) zc56 | (exfalso; first | exact absurd zc22 (by decide) | exact absurd zc32 (by decide) | exact absurd zc56 (by rw [show (100000 : Int32) = nI 100000 from rfl, nI_ltI (by omega) (by omega)]; omega)) | (exfalso; simp_all; done)
          · intro zc56
            with_reducible first | have ze56 := Int32.not_lt.mp zc56 | have ze56 := zc56
            refine hB bX11_foretold_59 _ _ _ _ _ _ _ kX11_foretold_59 ?_
            dsimp only [bX11_foretold_59, kx_wp, kx_step, kx_lI, kx_lL, kx_lA, kx_gl, kx_pI, kx_pL, kx_pR, kx_pA, kx_pV, kx_s1, kx_s2, kx_sl, kx_pre, kx_c2, kx_pl, kx_cmp, kx_oF, kx_eqN, kx_nil, kx_c1, kx_ft, kx_aI, kx_aL, kx_aR, kx_ln, Nat.reduceAdd, Option.toList, List.cons_append, List.nil_append, mW_o, mf_0, mf_1, mf_84, mf_49, mf_50, mf_51, mf_52]
            repeat (simp only [mu_0, mW_so, mu_84, mu_49, mu_50, mu_51, mu_52, mu_1, show upd M 0 0 1 = M 1 from rfl, show upd M 0 0 84 = M 84 from rfl, show upd M 0 0 49 = M 49 from rfl, show upd M 0 0 50 = M 50 from rfl, show upd M 0 0 51 = M 51 from rfl, show upd M 0 0 52 = M 52 from rfl, h1, nI_add, nI_1]; try dsimp only [kx_wp, kx_step, kx_lI, kx_lL, kx_lA, kx_gl, kx_pI, kx_pL, kx_pR, kx_pA, kx_pV, kx_s1, kx_s2, kx_sl, kx_pre, kx_c2, kx_pl, kx_cmp, kx_oF, kx_eqN, kx_nil, kx_c1, kx_ft, kx_aI, kx_aL, kx_aR, kx_ln, Nat.reduceAdd, Option.toList, List.cons_append, List.nil_append, mW_o, mf_0, mf_1, mf_84, mf_49, mf_50, mf_51, mf_52])
            repeat' apply And.intro
            all_goals try (first | with_reducible assumption | (with_reducible refine ck_nzI ?_; simp; done) | (with_reducible refine ck_nzL ?_; simp; done) | (with_reducible refine vp_in_nI ?_ ?_ <;> first | omega | decide) | (with_reducible refine Nat.le_of_ble_eq_true ?_; rfl) | omega | exact Or.inr True.intro | exact Or.inl True.intro | exact Or.inl rfl | exact Or.inr rfl)
            refine hB bX11_foretold_64 _ _ _ _ _ _ _ kX11_foretold_64 ?_
            dsimp only [bX11_foretold_64, kx_wp, kx_step, kx_lI, kx_lL, kx_lA, kx_gl, kx_pI, kx_pL, kx_pR, kx_pA, kx_pV, kx_s1, kx_s2, kx_sl, kx_pre, kx_c2, kx_pl, kx_cmp, kx_oF, kx_eqN, kx_nil, kx_c1, kx_ft, kx_aI, kx_aL, kx_aR, kx_ln, Nat.reduceAdd, Option.toList, List.cons_append, List.nil_append, mW_o, mf_0, mf_1, mf_84, mf_49, mf_50, mf_51, mf_52]
            repeat (simp only [mu_0, mW_so, mu_84, mu_49, mu_50, mu_51, mu_52, mu_1, show upd M 0 0 1 = M 1 from rfl, show upd M 0 0 84 = M 84 from rfl, show upd M 0 0 49 = M 49 from rfl, show upd M 0 0 50 = M 50 from rfl, show upd M 0 0 51 = M 51 from rfl, show upd M 0 0 52 = M 52 from rfl, h1, nI_add, nI_1]; try dsimp only [kx_wp, kx_step, kx_lI, kx_lL, kx_lA, kx_gl, kx_pI, kx_pL, kx_pR, kx_pA, kx_pV, kx_s1, kx_s2, kx_sl, kx_pre, kx_c2, kx_pl, kx_cmp, kx_oF, kx_eqN, kx_nil, kx_c1, kx_ft, kx_aI, kx_aL, kx_aR, kx_ln, Nat.reduceAdd, Option.toList, List.cons_append, List.nil_append, mW_o, mf_0, mf_1, mf_84, mf_49, mf_50, mf_51, mf_52])
            repeat' apply And.intro
            all_goals try (first | with_reducible assumption | (with_reducible refine ck_nzI ?_; simp; done) | (with_reducible refine ck_nzL ?_; simp; done) | (with_reducible refine vp_in_nI ?_ ?_ <;> first | omega | decide) | (with_reducible refine Nat.le_of_ble_eq_true ?_; rfl) | omega | exact Or.inr True.intro | exact Or.inl True.intro | exact Or.inl rfl | exact Or.inr rfl)
            refine hC.1 171 _ _ _ _ _ _ _ 11 _ _ _ _ _ _ _ _ _ _ _ _ lX11_171 (ct_X11_may_t l G (M := upd M 0 0) rfl) ⟨by decide, rfl⟩ (mW_o) rfl rfl (Nat.le_of_ble_eq_true rfl) (by decide) (by decide) (by omega) (by omega) dX11_foretold_65 ?_
            refine hB bX11_foretold_68 _ _ _ _ _ _ _ kX11_foretold_68 ?_
            dsimp only [bX11_foretold_68, kx_wp, kx_step, kx_lI, kx_lL, kx_lA, kx_gl, kx_pI, kx_pL, kx_pR, kx_pA, kx_pV, kx_s1, kx_s2, kx_sl, kx_pre, kx_c2, kx_pl, kx_cmp, kx_oF, kx_eqN, kx_nil, kx_c1, kx_ft, kx_aI, kx_aL, kx_aR, kx_ln, Nat.reduceAdd, Option.toList, List.cons_append, List.nil_append, mW_o, mf_0, mf_1, mf_84, mf_49, mf_50, mf_51, mf_52]
            repeat (simp only [mu_0, mW_so, mu_84, mu_49, mu_50, mu_51, mu_52, mu_1, show upd M 0 0 1 = M 1 from rfl, show upd M 0 0 84 = M 84 from rfl, show upd M 0 0 49 = M 49 from rfl, show upd M 0 0 50 = M 50 from rfl, show upd M 0 0 51 = M 51 from rfl, show upd M 0 0 52 = M 52 from rfl, h1, nI_add, nI_1]; try dsimp only [kx_wp, kx_step, kx_lI, kx_lL, kx_lA, kx_gl, kx_pI, kx_pL, kx_pR, kx_pA, kx_pV, kx_s1, kx_s2, kx_sl, kx_pre, kx_c2, kx_pl, kx_cmp, kx_oF, kx_eqN, kx_nil, kx_c1, kx_ft, kx_aI, kx_aL, kx_aR, kx_ln, Nat.reduceAdd, Option.toList, List.cons_append, List.nil_append, mW_o, mf_0, mf_1, mf_84, mf_49, mf_50, mf_51, mf_52])
            repeat' apply And.intro
            all_goals try (first | with_reducible assumption | (with_reducible refine ck_nzI ?_; simp; done) | (with_reducible refine ck_nzL ?_; simp; done) | (with_reducible refine vp_in_nI ?_ ?_ <;> first | omega | decide) | (with_reducible refine Nat.le_of_ble_eq_true ?_; rfl) | omega | exact Or.inr True.intro | exact Or.inl True.intro | exact Or.inl rfl | exact Or.inr rfl)
            · intro zc68
              have ze68 := zc68
              refine hB bX11_foretold_73 _ _ _ _ _ _ _ kX11_foretold_73 ?_
              dsimp only [bX11_foretold_73, kx_wp, kx_step, kx_lI, kx_lL, kx_lA, kx_gl, kx_pI, kx_pL, kx_pR, kx_pA, kx_pV, kx_s1, kx_s2, kx_sl, kx_pre, kx_c2, kx_pl, kx_cmp, kx_oF, kx_eqN, kx_nil, kx_c1, kx_ft, kx_aI, kx_aL, kx_aR, kx_ln, Nat.reduceAdd, Option.toList, List.cons_append, List.nil_append, mW_o, mf_0, mf_1, mf_84, mf_49, mf_50, mf_51, mf_52]
              repeat (simp only [mu_0, mW_so, mu_84, mu_49, mu_50, mu_51, mu_52, mu_1, show upd M 0 0 1 = M 1 from rfl, show upd M 0 0 84 = M 84 from rfl, show upd M 0 0 49 = M 49 from rfl, show upd M 0 0 50 = M 50 from rfl, show upd M 0 0 51 = M 51 from rfl, show upd M 0 0 52 = M 52 from rfl, h1, nI_add, nI_1]; try dsimp only [kx_wp, kx_step, kx_lI, kx_lL, kx_lA, kx_gl, kx_pI, kx_pL, kx_pR, kx_pA, kx_pV, kx_s1, kx_s2, kx_sl, kx_pre, kx_c2, kx_pl, kx_cmp, kx_oF, kx_eqN, kx_nil, kx_c1, kx_ft, kx_aI, kx_aL, kx_aR, kx_ln, Nat.reduceAdd, Option.toList, List.cons_append, List.nil_append, mW_o, mf_0, mf_1, mf_84, mf_49, mf_50, mf_51, mf_52])
              repeat' apply And.intro
              all_goals try (first | with_reducible assumption | (with_reducible refine ck_nzI ?_; simp; done) | (with_reducible refine ck_nzL ?_; simp; done) | (with_reducible refine vp_in_nI ?_ ?_ <;> first | omega | decide) | (with_reducible refine Nat.le_of_ble_eq_true ?_; rfl) | omega | exact Or.inr True.intro | exact Or.inl True.intro | exact Or.inl rfl | exact Or.inr rfl)
              refine hC.1 573 _ _ _ _ _ _ _ 11 _ _ _ _ _ _ _ _ _ _ _ _ lX11_573 (ct_X11_puts_s l G (M := upd (upd M 0 0) 84 (nI mi)) (h21) hcl) ⟨by decide, rfl⟩ (mW_o) rfl rfl (Nat.le_of_ble_eq_true rfl) (by decide) (by decide) (by omega) (by omega) dX11_foretold_83 ?_
              refine hB bX11_foretold_86 _ _ _ _ _ _ _ kX11_foretold_86 ?_
              dsimp only [bX11_foretold_86, kx_wp, kx_step, kx_lI, kx_lL, kx_lA, kx_gl, kx_pI, kx_pL, kx_pR, kx_pA, kx_pV, kx_s1, kx_s2, kx_sl, kx_pre, kx_c2, kx_pl, kx_cmp, kx_oF, kx_eqN, kx_nil, kx_c1, kx_ft, kx_aI, kx_aL, kx_aR, kx_ln, Nat.reduceAdd, Option.toList, List.cons_append, List.nil_append, mW_o, mf_0, mf_1, mf_84, mf_49, mf_50, mf_51, mf_52]
              repeat (simp only [mu_0, mW_so, mu_84, mu_49, mu_50, mu_51, mu_52, mu_1, show upd M 0 0 1 = M 1 from rfl, show upd M 0 0 84 = M 84 from rfl, show upd M 0 0 49 = M 49 from rfl, show upd M 0 0 50 = M 50 from rfl, show upd M 0 0 51 = M 51 from rfl, show upd M 0 0 52 = M 52 from rfl, h1, nI_add, nI_1]; try dsimp only [kx_wp, kx_step, kx_lI, kx_lL, kx_lA, kx_gl, kx_pI, kx_pL, kx_pR, kx_pA, kx_pV, kx_s1, kx_s2, kx_sl, kx_pre, kx_c2, kx_pl, kx_cmp, kx_oF, kx_eqN, kx_nil, kx_c1, kx_ft, kx_aI, kx_aL, kx_aR, kx_ln, Nat.reduceAdd, Option.toList, List.cons_append, List.nil_append, mW_o, mf_0, mf_1, mf_84, mf_49, mf_50, mf_51, mf_52])
              repeat' apply And.intro
              all_goals try (first | with_reducible assumption | (with_reducible refine ck_nzI ?_; simp; done) | (with_reducible refine ck_nzL ?_; simp; done) | (with_reducible refine vp_in_nI ?_ ?_ <;> first | omega | decide) | (with_reducible refine Nat.le_of_ble_eq_true ?_; rfl) | omega | exact Or.inr True.intro | exact Or.inl True.intro | exact Or.inl rfl | exact Or.inr rfl)
              have ze := loop109 k 0 (by omega)
              rw [show ck_mns (ck_fS M A L cl c) cl 0 = ck_fS M A L cl c from rfl] at ze
              simp only [ck_W, ck_fS, h1] at ze
              exact ze
            · intro zc68
              first | exact absurd rfl zc68 | exact absurd zc68 (by decide) | exact absurd (by decide) zc68 | (exfalso; first | exact absurd zc22 (by decide) | exact absurd zc32 (by decide) | exact absurd zc56 (by rw [show (100000 : Int32) = nI 100000 from rfl, nI_ltI (by omega) (by omega)]; omega)) | (exfalso; simp_all; done)

set_option maxRecDepth 100000 in
set_option maxHeartbeats 4000000 in
theorem ct_X11_foretold_m (l : Launch) (G : kx_G) {M : Nat → Int32} {A : Nat → Nat → Int32} {L : Nat → Nat → Int64} {R : kx_P} {sz : Nat} {cl c : Nat} (h21 : M 21 = nI cl) (hcl : cl ≤ 8) (hc : c < cl) {m w : Int32} (h2 : ¬ (1 ≤ m ∧ m ≤ 3000))  : kx_M l G sX11_foretold 6 0 0 [.ref 93, .int (nI c), .int (m), .int (w)] (mW M A L R) sz (some (.int (0))) (mW (upd (upd M 0 0) 0 2) A L R) sz := by
  refine kx_mk kx_tab kxLok_X11 (ini := false) [some (.ref 93), some (.int (nI c)), some (.int (m)), some (.int (w)), none] ⟨by decide, rfl, by decide, by decide⟩ (⟨_, rfl⟩) rfl rfl (fun g hB hC => ?_)
  refine hB bX11_foretold_0 _ _ _ _ _ _ _ kX11_foretold_0 ?_
  dsimp only [bX11_foretold_0, kx_wp, kx_step, kx_lI, kx_lL, kx_lA, kx_gl, kx_pI, kx_pL, kx_pR, kx_pA, kx_pV, kx_s1, kx_s2, kx_sl, kx_pre, kx_c2, kx_pl, kx_cmp, kx_oF, kx_eqN, kx_nil, kx_c1, kx_ft, kx_aI, kx_aL, kx_aR, kx_ln, Nat.reduceAdd, Option.toList, List.cons_append, List.nil_append, mW_o, mf_0, mf_1, mf_84, mf_49, mf_50, mf_51, mf_52]
  repeat (simp only [mu_0, mW_so, mu_84, mu_49, mu_50, mu_51, mu_52, mu_1, show upd M 0 0 1 = M 1 from rfl, show upd M 0 0 84 = M 84 from rfl, show upd M 0 0 49 = M 49 from rfl, show upd M 0 0 50 = M 50 from rfl, show upd M 0 0 51 = M 51 from rfl, show upd M 0 0 52 = M 52 from rfl]; try dsimp only [kx_wp, kx_step, kx_lI, kx_lL, kx_lA, kx_gl, kx_pI, kx_pL, kx_pR, kx_pA, kx_pV, kx_s1, kx_s2, kx_sl, kx_pre, kx_c2, kx_pl, kx_cmp, kx_oF, kx_eqN, kx_nil, kx_c1, kx_ft, kx_aI, kx_aL, kx_aR, kx_ln, Nat.reduceAdd, Option.toList, List.cons_append, List.nil_append, mW_o, mf_0, mf_1, mf_84, mf_49, mf_50, mf_51, mf_52])
  repeat' apply And.intro
  all_goals try (first | with_reducible assumption | (with_reducible refine ck_nzI ?_; simp; done) | (with_reducible refine ck_nzL ?_; simp; done) | (with_reducible refine vp_in_nI ?_ ?_ <;> first | omega | decide) | (with_reducible refine Nat.le_of_ble_eq_true ?_; rfl) | omega)
  refine hC.1 358 _ _ _ _ _ _ _ 11 _ _ _ _ _ _ _ _ _ _ _ _ lX11_358 (ct_X11_isClock_t l G (M := upd M 0 0) h21 hcl hc rfl) ⟨by decide, rfl⟩ (mW_o) rfl rfl (Nat.le_of_ble_eq_true rfl) (by decide) (by decide) (by omega) (by omega) dX11_foretold_7 ?_
  refine hB bX11_foretold_10 _ _ _ _ _ _ _ kX11_foretold_10 ?_
  dsimp only [bX11_foretold_10, kx_wp, kx_step, kx_lI, kx_lL, kx_lA, kx_gl, kx_pI, kx_pL, kx_pR, kx_pA, kx_pV, kx_s1, kx_s2, kx_sl, kx_pre, kx_c2, kx_pl, kx_cmp, kx_oF, kx_eqN, kx_nil, kx_c1, kx_ft, kx_aI, kx_aL, kx_aR, kx_ln, Nat.reduceAdd, Option.toList, List.cons_append, List.nil_append, mW_o, mf_0, mf_1, mf_84, mf_49, mf_50, mf_51, mf_52]
  repeat (simp only [mu_0, mW_so, mu_84, mu_49, mu_50, mu_51, mu_52, mu_1, show upd M 0 0 1 = M 1 from rfl, show upd M 0 0 84 = M 84 from rfl, show upd M 0 0 49 = M 49 from rfl, show upd M 0 0 50 = M 50 from rfl, show upd M 0 0 51 = M 51 from rfl, show upd M 0 0 52 = M 52 from rfl]; try dsimp only [kx_wp, kx_step, kx_lI, kx_lL, kx_lA, kx_gl, kx_pI, kx_pL, kx_pR, kx_pA, kx_pV, kx_s1, kx_s2, kx_sl, kx_pre, kx_c2, kx_pl, kx_cmp, kx_oF, kx_eqN, kx_nil, kx_c1, kx_ft, kx_aI, kx_aL, kx_aR, kx_ln, Nat.reduceAdd, Option.toList, List.cons_append, List.nil_append, mW_o, mf_0, mf_1, mf_84, mf_49, mf_50, mf_51, mf_52])
  repeat' apply And.intro
  all_goals try (first | with_reducible assumption | (with_reducible refine ck_nzI ?_; simp; done) | (with_reducible refine ck_nzL ?_; simp; done) | (with_reducible refine vp_in_nI ?_ ?_ <;> first | omega | decide) | (with_reducible refine Nat.le_of_ble_eq_true ?_; rfl) | omega)
  · intro zc10
    first | exact absurd rfl zc10 | exact absurd zc10 (by decide) | exact absurd (by decide) zc10 | (exfalso; exact absurd zc22 (by decide)) | (exfalso; simp_all; done)
  · intro zc10
    have ze10 := zc10
    refine hB bX11_foretold_13 _ _ _ _ _ _ _ kX11_foretold_13 ?_
    dsimp only [bX11_foretold_13, kx_wp, kx_step, kx_lI, kx_lL, kx_lA, kx_gl, kx_pI, kx_pL, kx_pR, kx_pA, kx_pV, kx_s1, kx_s2, kx_sl, kx_pre, kx_c2, kx_pl, kx_cmp, kx_oF, kx_eqN, kx_nil, kx_c1, kx_ft, kx_aI, kx_aL, kx_aR, kx_ln, Nat.reduceAdd, Option.toList, List.cons_append, List.nil_append, mW_o, mf_0, mf_1, mf_84, mf_49, mf_50, mf_51, mf_52]
    repeat (simp only [mu_0, mW_so, mu_84, mu_49, mu_50, mu_51, mu_52, mu_1, show upd M 0 0 1 = M 1 from rfl, show upd M 0 0 84 = M 84 from rfl, show upd M 0 0 49 = M 49 from rfl, show upd M 0 0 50 = M 50 from rfl, show upd M 0 0 51 = M 51 from rfl, show upd M 0 0 52 = M 52 from rfl]; try dsimp only [kx_wp, kx_step, kx_lI, kx_lL, kx_lA, kx_gl, kx_pI, kx_pL, kx_pR, kx_pA, kx_pV, kx_s1, kx_s2, kx_sl, kx_pre, kx_c2, kx_pl, kx_cmp, kx_oF, kx_eqN, kx_nil, kx_c1, kx_ft, kx_aI, kx_aL, kx_aR, kx_ln, Nat.reduceAdd, Option.toList, List.cons_append, List.nil_append, mW_o, mf_0, mf_1, mf_84, mf_49, mf_50, mf_51, mf_52])
    repeat' apply And.intro
    all_goals try (first | with_reducible assumption | (with_reducible refine ck_nzI ?_; simp; done) | (with_reducible refine ck_nzL ?_; simp; done) | (with_reducible refine vp_in_nI ?_ ?_ <;> first | omega | decide) | (with_reducible refine Nat.le_of_ble_eq_true ?_; rfl) | omega)
    refine hC.2.1 167 _ _ _ _ _ _ _ _ _ _ _ _ _ _ _ _ _ lX11_167 (ct_X11_within l G) rfl rfl (Nat.le_of_ble_eq_true rfl) (by decide) (by decide) (by omega) (by omega) dX11_foretold_19 ?_
    rw [if_neg h2]
    refine hB bX11_foretold_22 _ _ _ _ _ _ _ kX11_foretold_22 ?_
    dsimp only [bX11_foretold_22, kx_wp, kx_step, kx_lI, kx_lL, kx_lA, kx_gl, kx_pI, kx_pL, kx_pR, kx_pA, kx_pV, kx_s1, kx_s2, kx_sl, kx_pre, kx_c2, kx_pl, kx_cmp, kx_oF, kx_eqN, kx_nil, kx_c1, kx_ft, kx_aI, kx_aL, kx_aR, kx_ln, Nat.reduceAdd, Option.toList, List.cons_append, List.nil_append, mW_o, mf_0, mf_1, mf_84, mf_49, mf_50, mf_51, mf_52]
    repeat (simp only [mu_0, mW_so, mu_84, mu_49, mu_50, mu_51, mu_52, mu_1, show upd M 0 0 1 = M 1 from rfl, show upd M 0 0 84 = M 84 from rfl, show upd M 0 0 49 = M 49 from rfl, show upd M 0 0 50 = M 50 from rfl, show upd M 0 0 51 = M 51 from rfl, show upd M 0 0 52 = M 52 from rfl]; try dsimp only [kx_wp, kx_step, kx_lI, kx_lL, kx_lA, kx_gl, kx_pI, kx_pL, kx_pR, kx_pA, kx_pV, kx_s1, kx_s2, kx_sl, kx_pre, kx_c2, kx_pl, kx_cmp, kx_oF, kx_eqN, kx_nil, kx_c1, kx_ft, kx_aI, kx_aL, kx_aR, kx_ln, Nat.reduceAdd, Option.toList, List.cons_append, List.nil_append, mW_o, mf_0, mf_1, mf_84, mf_49, mf_50, mf_51, mf_52])
    repeat' apply And.intro
    all_goals try (first | with_reducible assumption | (with_reducible refine ck_nzI ?_; simp; done) | (with_reducible refine ck_nzL ?_; simp; done) | (with_reducible refine vp_in_nI ?_ ?_ <;> first | omega | decide) | (with_reducible refine Nat.le_of_ble_eq_true ?_; rfl) | omega)
    · intro zc22
      have ze22 := zc22
      refine hB bX11_foretold_39 _ _ _ _ _ _ _ kX11_foretold_39 ?_
      dsimp only [bX11_foretold_39, kx_wp, kx_step, kx_lI, kx_lL, kx_lA, kx_gl, kx_pI, kx_pL, kx_pR, kx_pA, kx_pV, kx_s1, kx_s2, kx_sl, kx_pre, kx_c2, kx_pl, kx_cmp, kx_oF, kx_eqN, kx_nil, kx_c1, kx_ft, kx_aI, kx_aL, kx_aR, kx_ln, Nat.reduceAdd, Option.toList, List.cons_append, List.nil_append, mW_o, mf_0, mf_1, mf_84, mf_49, mf_50, mf_51, mf_52]
      repeat (simp only [mu_0, mW_so, mu_84, mu_49, mu_50, mu_51, mu_52, mu_1, show upd M 0 0 1 = M 1 from rfl, show upd M 0 0 84 = M 84 from rfl, show upd M 0 0 49 = M 49 from rfl, show upd M 0 0 50 = M 50 from rfl, show upd M 0 0 51 = M 51 from rfl, show upd M 0 0 52 = M 52 from rfl]; try dsimp only [kx_wp, kx_step, kx_lI, kx_lL, kx_lA, kx_gl, kx_pI, kx_pL, kx_pR, kx_pA, kx_pV, kx_s1, kx_s2, kx_sl, kx_pre, kx_c2, kx_pl, kx_cmp, kx_oF, kx_eqN, kx_nil, kx_c1, kx_ft, kx_aI, kx_aL, kx_aR, kx_ln, Nat.reduceAdd, Option.toList, List.cons_append, List.nil_append, mW_o, mf_0, mf_1, mf_84, mf_49, mf_50, mf_51, mf_52])
      repeat' apply And.intro
      all_goals try (first | with_reducible assumption | (with_reducible refine ck_nzI ?_; simp; done) | (with_reducible refine ck_nzL ?_; simp; done) | (with_reducible refine vp_in_nI ?_ ?_ <;> first | omega | decide) | (with_reducible refine Nat.le_of_ble_eq_true ?_; rfl) | omega)
      refine hB bX11_foretold_40 _ _ _ _ _ _ _ kX11_foretold_40 ?_
      dsimp only [bX11_foretold_40, kx_wp, kx_step, kx_lI, kx_lL, kx_lA, kx_gl, kx_pI, kx_pL, kx_pR, kx_pA, kx_pV, kx_s1, kx_s2, kx_sl, kx_pre, kx_c2, kx_pl, kx_cmp, kx_oF, kx_eqN, kx_nil, kx_c1, kx_ft, kx_aI, kx_aL, kx_aR, kx_ln, Nat.reduceAdd, Option.toList, List.cons_append, List.nil_append, mW_o, mf_0, mf_1, mf_84, mf_49, mf_50, mf_51, mf_52]
      repeat (simp only [mu_0, mW_so, mu_84, mu_49, mu_50, mu_51, mu_52, mu_1, show upd M 0 0 1 = M 1 from rfl, show upd M 0 0 84 = M 84 from rfl, show upd M 0 0 49 = M 49 from rfl, show upd M 0 0 50 = M 50 from rfl, show upd M 0 0 51 = M 51 from rfl, show upd M 0 0 52 = M 52 from rfl]; try dsimp only [kx_wp, kx_step, kx_lI, kx_lL, kx_lA, kx_gl, kx_pI, kx_pL, kx_pR, kx_pA, kx_pV, kx_s1, kx_s2, kx_sl, kx_pre, kx_c2, kx_pl, kx_cmp, kx_oF, kx_eqN, kx_nil, kx_c1, kx_ft, kx_aI, kx_aL, kx_aR, kx_ln, Nat.reduceAdd, Option.toList, List.cons_append, List.nil_append, mW_o, mf_0, mf_1, mf_84, mf_49, mf_50, mf_51, mf_52])
      repeat' apply And.intro
      all_goals try (first | with_reducible assumption | (with_reducible refine ck_nzI ?_; simp; done) | (with_reducible refine ck_nzL ?_; simp; done) | (with_reducible refine vp_in_nI ?_ ?_ <;> first | omega | decide) | (with_reducible refine Nat.le_of_ble_eq_true ?_; rfl) | omega)
      refine hC.1 171 _ _ _ _ _ _ _ 11 _ _ _ _ _ _ _ _ _ _ _ _ lX11_171 (ct_X11_may_f l G (M := upd M 0 0) rfl (by decide)) ⟨by decide, rfl⟩ (mW_o) rfl rfl (Nat.le_of_ble_eq_true rfl) (by decide) (by decide) (by omega) (by omega) dX11_foretold_41 ?_
      refine hB bX11_foretold_44 _ _ _ _ _ _ _ kX11_foretold_44 ?_
      dsimp only [bX11_foretold_44, kx_wp, kx_step, kx_lI, kx_lL, kx_lA, kx_gl, kx_pI, kx_pL, kx_pR, kx_pA, kx_pV, kx_s1, kx_s2, kx_sl, kx_pre, kx_c2, kx_pl, kx_cmp, kx_oF, kx_eqN, kx_nil, kx_c1, kx_ft, kx_aI, kx_aL, kx_aR, kx_ln, Nat.reduceAdd, Option.toList, List.cons_append, List.nil_append, mW_o, mf_0, mf_1, mf_84, mf_49, mf_50, mf_51, mf_52]
      repeat (simp only [mu_0, mW_so, mu_84, mu_49, mu_50, mu_51, mu_52, mu_1, show upd M 0 0 1 = M 1 from rfl, show upd M 0 0 84 = M 84 from rfl, show upd M 0 0 49 = M 49 from rfl, show upd M 0 0 50 = M 50 from rfl, show upd M 0 0 51 = M 51 from rfl, show upd M 0 0 52 = M 52 from rfl]; try dsimp only [kx_wp, kx_step, kx_lI, kx_lL, kx_lA, kx_gl, kx_pI, kx_pL, kx_pR, kx_pA, kx_pV, kx_s1, kx_s2, kx_sl, kx_pre, kx_c2, kx_pl, kx_cmp, kx_oF, kx_eqN, kx_nil, kx_c1, kx_ft, kx_aI, kx_aL, kx_aR, kx_ln, Nat.reduceAdd, Option.toList, List.cons_append, List.nil_append, mW_o, mf_0, mf_1, mf_84, mf_49, mf_50, mf_51, mf_52])
      repeat' apply And.intro
      all_goals try (first | with_reducible assumption | (with_reducible refine ck_nzI ?_; simp; done) | (with_reducible refine ck_nzL ?_; simp; done) | (with_reducible refine vp_in_nI ?_ ?_ <;> first | omega | decide) | (with_reducible refine Nat.le_of_ble_eq_true ?_; rfl) | omega)
      · intro zc44
        have ze44 := zc44
        refine hB bX11_foretold_71 _ _ _ _ _ _ _ kX11_foretold_71 ?_
        dsimp only [bX11_foretold_71, kx_wp, kx_step, kx_lI, kx_lL, kx_lA, kx_gl, kx_pI, kx_pL, kx_pR, kx_pA, kx_pV, kx_s1, kx_s2, kx_sl, kx_pre, kx_c2, kx_pl, kx_cmp, kx_oF, kx_eqN, kx_nil, kx_c1, kx_ft, kx_aI, kx_aL, kx_aR, kx_ln, Nat.reduceAdd, Option.toList, List.cons_append, List.nil_append, mW_o, mf_0, mf_1, mf_84, mf_49, mf_50, mf_51, mf_52]
        repeat (simp only [mu_0, mW_so, mu_84, mu_49, mu_50, mu_51, mu_52, mu_1, show upd M 0 0 1 = M 1 from rfl, show upd M 0 0 84 = M 84 from rfl, show upd M 0 0 49 = M 49 from rfl, show upd M 0 0 50 = M 50 from rfl, show upd M 0 0 51 = M 51 from rfl, show upd M 0 0 52 = M 52 from rfl]; try dsimp only [kx_wp, kx_step, kx_lI, kx_lL, kx_lA, kx_gl, kx_pI, kx_pL, kx_pR, kx_pA, kx_pV, kx_s1, kx_s2, kx_sl, kx_pre, kx_c2, kx_pl, kx_cmp, kx_oF, kx_eqN, kx_nil, kx_c1, kx_ft, kx_aI, kx_aL, kx_aR, kx_ln, Nat.reduceAdd, Option.toList, List.cons_append, List.nil_append, mW_o, mf_0, mf_1, mf_84, mf_49, mf_50, mf_51, mf_52])
        all_goals (repeat' apply And.intro)
        all_goals ((try clear hB hC); first | exact True.intro | with_reducible rfl | with_reducible assumption | (with_reducible refine vp_in_nI ?_ ?_ <;> first | omega | decide) | exact Nat.le_of_ble_eq_true rfl | (with_reducible refine ck_nzI ?_; simp; done) | (with_reducible refine ck_nzL ?_; simp; done) | (simp only [pk_us, pk_uLs, ze10, eq_true ze22, eq_true ze44, ↓reduceIte, not_true_eq_false, not_false_eq_true]; done) | (simp only [ze10, eq_true ze22, eq_true ze44, ↓reduceIte, not_true_eq_false, not_false_eq_true]; with_reducible rfl) | skip)
      · intro zc44
        first | exact absurd rfl zc44 | exact absurd zc44 (by decide) | exact absurd (by decide) zc44 | (exfalso; exact absurd zc22 (by decide)) | (exfalso; simp_all; done)
    · intro zc22
      first | exact absurd rfl zc22 | exact absurd zc22 (by decide) | exact absurd (by decide) zc22 | (exfalso; exact absurd zc22 (by decide)) | (exfalso; simp_all; done)

set_option maxRecDepth 100000 in
set_option maxHeartbeats 4000000 in
theorem ct_X11_foretold_w (l : Launch) (G : kx_G) {M : Nat → Int32} {A : Nat → Nat → Int32} {L : Nat → Nat → Int64} {R : kx_P} {sz : Nat} {cl c : Nat} (h21 : M 21 = nI cl) (hcl : cl ≤ 8) (hc : c < cl) {m w : Int32} (h2 : 1 ≤ m ∧ m ≤ 3000) (h3 : ¬ (0 ≤ w ∧ w ≤ 6))  : kx_M l G sX11_foretold 6 0 0 [.ref 93, .int (nI c), .int (m), .int (w)] (mW M A L R) sz (some (.int (0))) (mW (upd (upd M 0 0) 0 2) A L R) sz := by
  refine kx_mk kx_tab kxLok_X11 (ini := false) [some (.ref 93), some (.int (nI c)), some (.int (m)), some (.int (w)), none] ⟨by decide, rfl, by decide, by decide⟩ (⟨_, rfl⟩) rfl rfl (fun g hB hC => ?_)
  refine hB bX11_foretold_0 _ _ _ _ _ _ _ kX11_foretold_0 ?_
  dsimp only [bX11_foretold_0, kx_wp, kx_step, kx_lI, kx_lL, kx_lA, kx_gl, kx_pI, kx_pL, kx_pR, kx_pA, kx_pV, kx_s1, kx_s2, kx_sl, kx_pre, kx_c2, kx_pl, kx_cmp, kx_oF, kx_eqN, kx_nil, kx_c1, kx_ft, kx_aI, kx_aL, kx_aR, kx_ln, Nat.reduceAdd, Option.toList, List.cons_append, List.nil_append, mW_o, mf_0, mf_1, mf_84, mf_49, mf_50, mf_51, mf_52]
  repeat (simp only [mu_0, mW_so, mu_84, mu_49, mu_50, mu_51, mu_52, mu_1, show upd M 0 0 1 = M 1 from rfl, show upd M 0 0 84 = M 84 from rfl, show upd M 0 0 49 = M 49 from rfl, show upd M 0 0 50 = M 50 from rfl, show upd M 0 0 51 = M 51 from rfl, show upd M 0 0 52 = M 52 from rfl]; try dsimp only [kx_wp, kx_step, kx_lI, kx_lL, kx_lA, kx_gl, kx_pI, kx_pL, kx_pR, kx_pA, kx_pV, kx_s1, kx_s2, kx_sl, kx_pre, kx_c2, kx_pl, kx_cmp, kx_oF, kx_eqN, kx_nil, kx_c1, kx_ft, kx_aI, kx_aL, kx_aR, kx_ln, Nat.reduceAdd, Option.toList, List.cons_append, List.nil_append, mW_o, mf_0, mf_1, mf_84, mf_49, mf_50, mf_51, mf_52])
  repeat' apply And.intro
  all_goals try (first | with_reducible assumption | (with_reducible refine ck_nzI ?_; simp; done) | (with_reducible refine ck_nzL ?_; simp; done) | (with_reducible refine vp_in_nI ?_ ?_ <;> first | omega | decide) | (with_reducible refine Nat.le_of_ble_eq_true ?_; rfl) | omega)
  refine hC.1 358 _ _ _ _ _ _ _ 11 _ _ _ _ _ _ _ _ _ _ _ _ lX11_358 (ct_X11_isClock_t l G (M := upd M 0 0) h21 hcl hc rfl) ⟨by decide, rfl⟩ (mW_o) rfl rfl (Nat.le_of_ble_eq_true rfl) (by decide) (by decide) (by omega) (by omega) dX11_foretold_7 ?_
  refine hB bX11_foretold_10 _ _ _ _ _ _ _ kX11_foretold_10 ?_
  dsimp only [bX11_foretold_10, kx_wp, kx_step, kx_lI, kx_lL, kx_lA, kx_gl, kx_pI, kx_pL, kx_pR, kx_pA, kx_pV, kx_s1, kx_s2, kx_sl, kx_pre, kx_c2, kx_pl, kx_cmp, kx_oF, kx_eqN, kx_nil, kx_c1, kx_ft, kx_aI, kx_aL, kx_aR, kx_ln, Nat.reduceAdd, Option.toList, List.cons_append, List.nil_append, mW_o, mf_0, mf_1, mf_84, mf_49, mf_50, mf_51, mf_52]
  repeat (simp only [mu_0, mW_so, mu_84, mu_49, mu_50, mu_51, mu_52, mu_1, show upd M 0 0 1 = M 1 from rfl, show upd M 0 0 84 = M 84 from rfl, show upd M 0 0 49 = M 49 from rfl, show upd M 0 0 50 = M 50 from rfl, show upd M 0 0 51 = M 51 from rfl, show upd M 0 0 52 = M 52 from rfl]; try dsimp only [kx_wp, kx_step, kx_lI, kx_lL, kx_lA, kx_gl, kx_pI, kx_pL, kx_pR, kx_pA, kx_pV, kx_s1, kx_s2, kx_sl, kx_pre, kx_c2, kx_pl, kx_cmp, kx_oF, kx_eqN, kx_nil, kx_c1, kx_ft, kx_aI, kx_aL, kx_aR, kx_ln, Nat.reduceAdd, Option.toList, List.cons_append, List.nil_append, mW_o, mf_0, mf_1, mf_84, mf_49, mf_50, mf_51, mf_52])
  repeat' apply And.intro
  all_goals try (first | with_reducible assumption | (with_reducible refine ck_nzI ?_; simp; done) | (with_reducible refine ck_nzL ?_; simp; done) | (with_reducible refine vp_in_nI ?_ ?_ <;> first | omega | decide) | (with_reducible refine Nat.le_of_ble_eq_true ?_; rfl) | omega)
  · intro zc10
    first | exact absurd rfl zc10 | exact absurd zc10 (by decide) | exact absurd (by decide) zc10 | (exfalso; first | exact absurd zc22 (by decide) | exact absurd zc32 (by decide)) | (exfalso; simp_all; done)
  · intro zc10
    have ze10 := zc10
    refine hB bX11_foretold_13 _ _ _ _ _ _ _ kX11_foretold_13 ?_
    dsimp only [bX11_foretold_13, kx_wp, kx_step, kx_lI, kx_lL, kx_lA, kx_gl, kx_pI, kx_pL, kx_pR, kx_pA, kx_pV, kx_s1, kx_s2, kx_sl, kx_pre, kx_c2, kx_pl, kx_cmp, kx_oF, kx_eqN, kx_nil, kx_c1, kx_ft, kx_aI, kx_aL, kx_aR, kx_ln, Nat.reduceAdd, Option.toList, List.cons_append, List.nil_append, mW_o, mf_0, mf_1, mf_84, mf_49, mf_50, mf_51, mf_52]
    repeat (simp only [mu_0, mW_so, mu_84, mu_49, mu_50, mu_51, mu_52, mu_1, show upd M 0 0 1 = M 1 from rfl, show upd M 0 0 84 = M 84 from rfl, show upd M 0 0 49 = M 49 from rfl, show upd M 0 0 50 = M 50 from rfl, show upd M 0 0 51 = M 51 from rfl, show upd M 0 0 52 = M 52 from rfl]; try dsimp only [kx_wp, kx_step, kx_lI, kx_lL, kx_lA, kx_gl, kx_pI, kx_pL, kx_pR, kx_pA, kx_pV, kx_s1, kx_s2, kx_sl, kx_pre, kx_c2, kx_pl, kx_cmp, kx_oF, kx_eqN, kx_nil, kx_c1, kx_ft, kx_aI, kx_aL, kx_aR, kx_ln, Nat.reduceAdd, Option.toList, List.cons_append, List.nil_append, mW_o, mf_0, mf_1, mf_84, mf_49, mf_50, mf_51, mf_52])
    repeat' apply And.intro
    all_goals try (first | with_reducible assumption | (with_reducible refine ck_nzI ?_; simp; done) | (with_reducible refine ck_nzL ?_; simp; done) | (with_reducible refine vp_in_nI ?_ ?_ <;> first | omega | decide) | (with_reducible refine Nat.le_of_ble_eq_true ?_; rfl) | omega)
    refine hC.2.1 167 _ _ _ _ _ _ _ _ _ _ _ _ _ _ _ _ _ lX11_167 (ct_X11_within l G) rfl rfl (Nat.le_of_ble_eq_true rfl) (by decide) (by decide) (by omega) (by omega) dX11_foretold_19 ?_
    rw [if_pos h2]
    refine hB bX11_foretold_22 _ _ _ _ _ _ _ kX11_foretold_22 ?_
    dsimp only [bX11_foretold_22, kx_wp, kx_step, kx_lI, kx_lL, kx_lA, kx_gl, kx_pI, kx_pL, kx_pR, kx_pA, kx_pV, kx_s1, kx_s2, kx_sl, kx_pre, kx_c2, kx_pl, kx_cmp, kx_oF, kx_eqN, kx_nil, kx_c1, kx_ft, kx_aI, kx_aL, kx_aR, kx_ln, Nat.reduceAdd, Option.toList, List.cons_append, List.nil_append, mW_o, mf_0, mf_1, mf_84, mf_49, mf_50, mf_51, mf_52]
    repeat (simp only [mu_0, mW_so, mu_84, mu_49, mu_50, mu_51, mu_52, mu_1, show upd M 0 0 1 = M 1 from rfl, show upd M 0 0 84 = M 84 from rfl, show upd M 0 0 49 = M 49 from rfl, show upd M 0 0 50 = M 50 from rfl, show upd M 0 0 51 = M 51 from rfl, show upd M 0 0 52 = M 52 from rfl]; try dsimp only [kx_wp, kx_step, kx_lI, kx_lL, kx_lA, kx_gl, kx_pI, kx_pL, kx_pR, kx_pA, kx_pV, kx_s1, kx_s2, kx_sl, kx_pre, kx_c2, kx_pl, kx_cmp, kx_oF, kx_eqN, kx_nil, kx_c1, kx_ft, kx_aI, kx_aL, kx_aR, kx_ln, Nat.reduceAdd, Option.toList, List.cons_append, List.nil_append, mW_o, mf_0, mf_1, mf_84, mf_49, mf_50, mf_51, mf_52])
    repeat' apply And.intro
    all_goals try (first | with_reducible assumption | (with_reducible refine ck_nzI ?_; simp; done) | (with_reducible refine ck_nzL ?_; simp; done) | (with_reducible refine vp_in_nI ?_ ?_ <;> first | omega | decide) | (with_reducible refine Nat.le_of_ble_eq_true ?_; rfl) | omega)
    · intro zc22
      first | exact absurd rfl zc22 | exact absurd zc22 (by decide) | exact absurd (by decide) zc22 | (exfalso; first | exact absurd zc22 (by decide) | exact absurd zc32 (by decide)) | (exfalso; simp_all; done)
    · intro zc22
      have ze22 := zc22
      refine hB bX11_foretold_25 _ _ _ _ _ _ _ kX11_foretold_25 ?_
      dsimp only [bX11_foretold_25, kx_wp, kx_step, kx_lI, kx_lL, kx_lA, kx_gl, kx_pI, kx_pL, kx_pR, kx_pA, kx_pV, kx_s1, kx_s2, kx_sl, kx_pre, kx_c2, kx_pl, kx_cmp, kx_oF, kx_eqN, kx_nil, kx_c1, kx_ft, kx_aI, kx_aL, kx_aR, kx_ln, Nat.reduceAdd, Option.toList, List.cons_append, List.nil_append, mW_o, mf_0, mf_1, mf_84, mf_49, mf_50, mf_51, mf_52]
      repeat (simp only [mu_0, mW_so, mu_84, mu_49, mu_50, mu_51, mu_52, mu_1, show upd M 0 0 1 = M 1 from rfl, show upd M 0 0 84 = M 84 from rfl, show upd M 0 0 49 = M 49 from rfl, show upd M 0 0 50 = M 50 from rfl, show upd M 0 0 51 = M 51 from rfl, show upd M 0 0 52 = M 52 from rfl]; try dsimp only [kx_wp, kx_step, kx_lI, kx_lL, kx_lA, kx_gl, kx_pI, kx_pL, kx_pR, kx_pA, kx_pV, kx_s1, kx_s2, kx_sl, kx_pre, kx_c2, kx_pl, kx_cmp, kx_oF, kx_eqN, kx_nil, kx_c1, kx_ft, kx_aI, kx_aL, kx_aR, kx_ln, Nat.reduceAdd, Option.toList, List.cons_append, List.nil_append, mW_o, mf_0, mf_1, mf_84, mf_49, mf_50, mf_51, mf_52])
      repeat' apply And.intro
      all_goals try (first | with_reducible assumption | (with_reducible refine ck_nzI ?_; simp; done) | (with_reducible refine ck_nzL ?_; simp; done) | (with_reducible refine vp_in_nI ?_ ?_ <;> first | omega | decide) | (with_reducible refine Nat.le_of_ble_eq_true ?_; rfl) | omega)
      refine hC.2.1 167 _ _ _ _ _ _ _ _ _ _ _ _ _ _ _ _ _ lX11_167 (ct_X11_within l G) rfl rfl (Nat.le_of_ble_eq_true rfl) (by decide) (by decide) (by omega) (by omega) dX11_foretold_29 ?_
      rw [if_neg h3]
      refine hB bX11_foretold_32 _ _ _ _ _ _ _ kX11_foretold_32 ?_
      dsimp only [bX11_foretold_32, kx_wp, kx_step, kx_lI, kx_lL, kx_lA, kx_gl, kx_pI, kx_pL, kx_pR, kx_pA, kx_pV, kx_s1, kx_s2, kx_sl, kx_pre, kx_c2, kx_pl, kx_cmp, kx_oF, kx_eqN, kx_nil, kx_c1, kx_ft, kx_aI, kx_aL, kx_aR, kx_ln, Nat.reduceAdd, Option.toList, List.cons_append, List.nil_append, mW_o, mf_0, mf_1, mf_84, mf_49, mf_50, mf_51, mf_52]
      repeat (simp only [mu_0, mW_so, mu_84, mu_49, mu_50, mu_51, mu_52, mu_1, show upd M 0 0 1 = M 1 from rfl, show upd M 0 0 84 = M 84 from rfl, show upd M 0 0 49 = M 49 from rfl, show upd M 0 0 50 = M 50 from rfl, show upd M 0 0 51 = M 51 from rfl, show upd M 0 0 52 = M 52 from rfl]; try dsimp only [kx_wp, kx_step, kx_lI, kx_lL, kx_lA, kx_gl, kx_pI, kx_pL, kx_pR, kx_pA, kx_pV, kx_s1, kx_s2, kx_sl, kx_pre, kx_c2, kx_pl, kx_cmp, kx_oF, kx_eqN, kx_nil, kx_c1, kx_ft, kx_aI, kx_aL, kx_aR, kx_ln, Nat.reduceAdd, Option.toList, List.cons_append, List.nil_append, mW_o, mf_0, mf_1, mf_84, mf_49, mf_50, mf_51, mf_52])
      repeat' apply And.intro
      all_goals try (first | with_reducible assumption | (with_reducible refine ck_nzI ?_; simp; done) | (with_reducible refine ck_nzL ?_; simp; done) | (with_reducible refine vp_in_nI ?_ ?_ <;> first | omega | decide) | (with_reducible refine Nat.le_of_ble_eq_true ?_; rfl) | omega)
      · intro zc32
        have ze32 := zc32
        refine hB bX11_foretold_39 _ _ _ _ _ _ _ kX11_foretold_39 ?_
        dsimp only [bX11_foretold_39, kx_wp, kx_step, kx_lI, kx_lL, kx_lA, kx_gl, kx_pI, kx_pL, kx_pR, kx_pA, kx_pV, kx_s1, kx_s2, kx_sl, kx_pre, kx_c2, kx_pl, kx_cmp, kx_oF, kx_eqN, kx_nil, kx_c1, kx_ft, kx_aI, kx_aL, kx_aR, kx_ln, Nat.reduceAdd, Option.toList, List.cons_append, List.nil_append, mW_o, mf_0, mf_1, mf_84, mf_49, mf_50, mf_51, mf_52]
        repeat (simp only [mu_0, mW_so, mu_84, mu_49, mu_50, mu_51, mu_52, mu_1, show upd M 0 0 1 = M 1 from rfl, show upd M 0 0 84 = M 84 from rfl, show upd M 0 0 49 = M 49 from rfl, show upd M 0 0 50 = M 50 from rfl, show upd M 0 0 51 = M 51 from rfl, show upd M 0 0 52 = M 52 from rfl]; try dsimp only [kx_wp, kx_step, kx_lI, kx_lL, kx_lA, kx_gl, kx_pI, kx_pL, kx_pR, kx_pA, kx_pV, kx_s1, kx_s2, kx_sl, kx_pre, kx_c2, kx_pl, kx_cmp, kx_oF, kx_eqN, kx_nil, kx_c1, kx_ft, kx_aI, kx_aL, kx_aR, kx_ln, Nat.reduceAdd, Option.toList, List.cons_append, List.nil_append, mW_o, mf_0, mf_1, mf_84, mf_49, mf_50, mf_51, mf_52])
        repeat' apply And.intro
        all_goals try (first | with_reducible assumption | (with_reducible refine ck_nzI ?_; simp; done) | (with_reducible refine ck_nzL ?_; simp; done) | (with_reducible refine vp_in_nI ?_ ?_ <;> first | omega | decide) | (with_reducible refine Nat.le_of_ble_eq_true ?_; rfl) | omega)
        refine hB bX11_foretold_40 _ _ _ _ _ _ _ kX11_foretold_40 ?_
        dsimp only [bX11_foretold_40, kx_wp, kx_step, kx_lI, kx_lL, kx_lA, kx_gl, kx_pI, kx_pL, kx_pR, kx_pA, kx_pV, kx_s1, kx_s2, kx_sl, kx_pre, kx_c2, kx_pl, kx_cmp, kx_oF, kx_eqN, kx_nil, kx_c1, kx_ft, kx_aI, kx_aL, kx_aR, kx_ln, Nat.reduceAdd, Option.toList, List.cons_append, List.nil_append, mW_o, mf_0, mf_1, mf_84, mf_49, mf_50, mf_51, mf_52]
        repeat (simp only [mu_0, mW_so, mu_84, mu_49, mu_50, mu_51, mu_52, mu_1, show upd M 0 0 1 = M 1 from rfl, show upd M 0 0 84 = M 84 from rfl, show upd M 0 0 49 = M 49 from rfl, show upd M 0 0 50 = M 50 from rfl, show upd M 0 0 51 = M 51 from rfl, show upd M 0 0 52 = M 52 from rfl]; try dsimp only [kx_wp, kx_step, kx_lI, kx_lL, kx_lA, kx_gl, kx_pI, kx_pL, kx_pR, kx_pA, kx_pV, kx_s1, kx_s2, kx_sl, kx_pre, kx_c2, kx_pl, kx_cmp, kx_oF, kx_eqN, kx_nil, kx_c1, kx_ft, kx_aI, kx_aL, kx_aR, kx_ln, Nat.reduceAdd, Option.toList, List.cons_append, List.nil_append, mW_o, mf_0, mf_1, mf_84, mf_49, mf_50, mf_51, mf_52])
        repeat' apply And.intro
        all_goals try (first | with_reducible assumption | (with_reducible refine ck_nzI ?_; simp; done) | (with_reducible refine ck_nzL ?_; simp; done) | (with_reducible refine vp_in_nI ?_ ?_ <;> first | omega | decide) | (with_reducible refine Nat.le_of_ble_eq_true ?_; rfl) | omega)
        refine hC.1 171 _ _ _ _ _ _ _ 11 _ _ _ _ _ _ _ _ _ _ _ _ lX11_171 (ct_X11_may_f l G (M := upd M 0 0) rfl (by decide)) ⟨by decide, rfl⟩ (mW_o) rfl rfl (Nat.le_of_ble_eq_true rfl) (by decide) (by decide) (by omega) (by omega) dX11_foretold_41 ?_
        refine hB bX11_foretold_44 _ _ _ _ _ _ _ kX11_foretold_44 ?_
        dsimp only [bX11_foretold_44, kx_wp, kx_step, kx_lI, kx_lL, kx_lA, kx_gl, kx_pI, kx_pL, kx_pR, kx_pA, kx_pV, kx_s1, kx_s2, kx_sl, kx_pre, kx_c2, kx_pl, kx_cmp, kx_oF, kx_eqN, kx_nil, kx_c1, kx_ft, kx_aI, kx_aL, kx_aR, kx_ln, Nat.reduceAdd, Option.toList, List.cons_append, List.nil_append, mW_o, mf_0, mf_1, mf_84, mf_49, mf_50, mf_51, mf_52]
        repeat (simp only [mu_0, mW_so, mu_84, mu_49, mu_50, mu_51, mu_52, mu_1, show upd M 0 0 1 = M 1 from rfl, show upd M 0 0 84 = M 84 from rfl, show upd M 0 0 49 = M 49 from rfl, show upd M 0 0 50 = M 50 from rfl, show upd M 0 0 51 = M 51 from rfl, show upd M 0 0 52 = M 52 from rfl]; try dsimp only [kx_wp, kx_step, kx_lI, kx_lL, kx_lA, kx_gl, kx_pI, kx_pL, kx_pR, kx_pA, kx_pV, kx_s1, kx_s2, kx_sl, kx_pre, kx_c2, kx_pl, kx_cmp, kx_oF, kx_eqN, kx_nil, kx_c1, kx_ft, kx_aI, kx_aL, kx_aR, kx_ln, Nat.reduceAdd, Option.toList, List.cons_append, List.nil_append, mW_o, mf_0, mf_1, mf_84, mf_49, mf_50, mf_51, mf_52])
        repeat' apply And.intro
        all_goals try (first | with_reducible assumption | (with_reducible refine ck_nzI ?_; simp; done) | (with_reducible refine ck_nzL ?_; simp; done) | (with_reducible refine vp_in_nI ?_ ?_ <;> first | omega | decide) | (with_reducible refine Nat.le_of_ble_eq_true ?_; rfl) | omega)
        · intro zc44
          have ze44 := zc44
          refine hB bX11_foretold_71 _ _ _ _ _ _ _ kX11_foretold_71 ?_
          dsimp only [bX11_foretold_71, kx_wp, kx_step, kx_lI, kx_lL, kx_lA, kx_gl, kx_pI, kx_pL, kx_pR, kx_pA, kx_pV, kx_s1, kx_s2, kx_sl, kx_pre, kx_c2, kx_pl, kx_cmp, kx_oF, kx_eqN, kx_nil, kx_c1, kx_ft, kx_aI, kx_aL, kx_aR, kx_ln, Nat.reduceAdd, Option.toList, List.cons_append, List.nil_append, mW_o, mf_0, mf_1, mf_84, mf_49, mf_50, mf_51, mf_52]
          repeat (simp only [mu_0, mW_so, mu_84, mu_49, mu_50, mu_51, mu_52, mu_1, show upd M 0 0 1 = M 1 from rfl, show upd M 0 0 84 = M 84 from rfl, show upd M 0 0 49 = M 49 from rfl, show upd M 0 0 50 = M 50 from rfl, show upd M 0 0 51 = M 51 from rfl, show upd M 0 0 52 = M 52 from rfl]; try dsimp only [kx_wp, kx_step, kx_lI, kx_lL, kx_lA, kx_gl, kx_pI, kx_pL, kx_pR, kx_pA, kx_pV, kx_s1, kx_s2, kx_sl, kx_pre, kx_c2, kx_pl, kx_cmp, kx_oF, kx_eqN, kx_nil, kx_c1, kx_ft, kx_aI, kx_aL, kx_aR, kx_ln, Nat.reduceAdd, Option.toList, List.cons_append, List.nil_append, mW_o, mf_0, mf_1, mf_84, mf_49, mf_50, mf_51, mf_52])
          all_goals (repeat' apply And.intro)
          all_goals ((try clear hB hC); first | exact True.intro | with_reducible rfl | with_reducible assumption | (with_reducible refine vp_in_nI ?_ ?_ <;> first | omega | decide) | exact Nat.le_of_ble_eq_true rfl | (with_reducible refine ck_nzI ?_; simp; done) | (with_reducible refine ck_nzL ?_; simp; done) | (simp only [pk_us, pk_uLs, ze10, ze22, eq_true ze32, eq_true ze44, ↓reduceIte, not_true_eq_false, not_false_eq_true]; done) | (simp only [ze10, ze22, eq_true ze32, eq_true ze44, ↓reduceIte, not_true_eq_false, not_false_eq_true]; with_reducible rfl) | skip)
        · intro zc44
          first | exact absurd rfl zc44 | exact absurd zc44 (by decide) | exact absurd (by decide) zc44 | (exfalso; first | exact absurd zc22 (by decide) | exact absurd zc32 (by decide)) | (exfalso; simp_all; done)
      · intro zc32
        first | exact absurd rfl zc32 | exact absurd zc32 (by decide) | exact absurd (by decide) zc32 | (exfalso; first | exact absurd zc22 (by decide) | exact absurd zc32 (by decide)) | (exfalso; simp_all; done)

set_option maxRecDepth 100000 in
set_option maxHeartbeats 4000000 in
theorem ct_X11_foretold_l (l : Launch) (G : kx_G) {M : Nat → Int32} {A : Nat → Nat → Int32} {L : Nat → Nat → Int64} {R : kx_P} {sz : Nat} {cl c : Nat} (h21 : M 21 = nI cl) (hcl : cl ≤ 8) (hc : c < cl) {m w : Int32} (h2 : 1 ≤ m ∧ m ≤ 3000) (h3 : 0 ≤ w ∧ w ≤ 6) (h4 : ¬ M 1 + m ≤ 100000)  : kx_M l G sX11_foretold 6 0 0 [.ref 93, .int (nI c), .int (m), .int (w)] (mW M A L R) sz (some (.int (0))) (mW (upd (upd M 0 0) 0 3) A L R) sz := by
  refine kx_mk kx_tab kxLok_X11 (ini := false) [some (.ref 93), some (.int (nI c)), some (.int (m)), some (.int (w)), none] ⟨by decide, rfl, by decide, by decide⟩ (⟨_, rfl⟩) rfl rfl (fun g hB hC => ?_)
  refine hB bX11_foretold_0 _ _ _ _ _ _ _ kX11_foretold_0 ?_
  dsimp only [bX11_foretold_0, kx_wp, kx_step, kx_lI, kx_lL, kx_lA, kx_gl, kx_pI, kx_pL, kx_pR, kx_pA, kx_pV, kx_s1, kx_s2, kx_sl, kx_pre, kx_c2, kx_pl, kx_cmp, kx_oF, kx_eqN, kx_nil, kx_c1, kx_ft, kx_aI, kx_aL, kx_aR, kx_ln, Nat.reduceAdd, Option.toList, List.cons_append, List.nil_append, mW_o, mf_0, mf_1, mf_84, mf_49, mf_50, mf_51, mf_52]
  repeat (simp only [mu_0, mW_so, mu_84, mu_49, mu_50, mu_51, mu_52, mu_1, show upd M 0 0 1 = M 1 from rfl, show upd M 0 0 84 = M 84 from rfl, show upd M 0 0 49 = M 49 from rfl, show upd M 0 0 50 = M 50 from rfl, show upd M 0 0 51 = M 51 from rfl, show upd M 0 0 52 = M 52 from rfl]; try dsimp only [kx_wp, kx_step, kx_lI, kx_lL, kx_lA, kx_gl, kx_pI, kx_pL, kx_pR, kx_pA, kx_pV, kx_s1, kx_s2, kx_sl, kx_pre, kx_c2, kx_pl, kx_cmp, kx_oF, kx_eqN, kx_nil, kx_c1, kx_ft, kx_aI, kx_aL, kx_aR, kx_ln, Nat.reduceAdd, Option.toList, List.cons_append, List.nil_append, mW_o, mf_0, mf_1, mf_84, mf_49, mf_50, mf_51, mf_52])
  repeat' apply And.intro
  all_goals try (first | with_reducible assumption | (with_reducible refine ck_nzI ?_; simp; done) | (with_reducible refine ck_nzL ?_; simp; done) | (with_reducible refine vp_in_nI ?_ ?_ <;> first | omega | decide) | (with_reducible refine Nat.le_of_ble_eq_true ?_; rfl) | omega)
  refine hC.1 358 _ _ _ _ _ _ _ 11 _ _ _ _ _ _ _ _ _ _ _ _ lX11_358 (ct_X11_isClock_t l G (M := upd M 0 0) h21 hcl hc rfl) ⟨by decide, rfl⟩ (mW_o) rfl rfl (Nat.le_of_ble_eq_true rfl) (by decide) (by decide) (by omega) (by omega) dX11_foretold_7 ?_
  refine hB bX11_foretold_10 _ _ _ _ _ _ _ kX11_foretold_10 ?_
  dsimp only [bX11_foretold_10, kx_wp, kx_step, kx_lI, kx_lL, kx_lA, kx_gl, kx_pI, kx_pL, kx_pR, kx_pA, kx_pV, kx_s1, kx_s2, kx_sl, kx_pre, kx_c2, kx_pl, kx_cmp, kx_oF, kx_eqN, kx_nil, kx_c1, kx_ft, kx_aI, kx_aL, kx_aR, kx_ln, Nat.reduceAdd, Option.toList, List.cons_append, List.nil_append, mW_o, mf_0, mf_1, mf_84, mf_49, mf_50, mf_51, mf_52]
  repeat (simp only [mu_0, mW_so, mu_84, mu_49, mu_50, mu_51, mu_52, mu_1, show upd M 0 0 1 = M 1 from rfl, show upd M 0 0 84 = M 84 from rfl, show upd M 0 0 49 = M 49 from rfl, show upd M 0 0 50 = M 50 from rfl, show upd M 0 0 51 = M 51 from rfl, show upd M 0 0 52 = M 52 from rfl]; try dsimp only [kx_wp, kx_step, kx_lI, kx_lL, kx_lA, kx_gl, kx_pI, kx_pL, kx_pR, kx_pA, kx_pV, kx_s1, kx_s2, kx_sl, kx_pre, kx_c2, kx_pl, kx_cmp, kx_oF, kx_eqN, kx_nil, kx_c1, kx_ft, kx_aI, kx_aL, kx_aR, kx_ln, Nat.reduceAdd, Option.toList, List.cons_append, List.nil_append, mW_o, mf_0, mf_1, mf_84, mf_49, mf_50, mf_51, mf_52])
  repeat' apply And.intro
  all_goals try (first | with_reducible assumption | (with_reducible refine ck_nzI ?_; simp; done) | (with_reducible refine ck_nzL ?_; simp; done) | (with_reducible refine vp_in_nI ?_ ?_ <;> first | omega | decide) | (with_reducible refine Nat.le_of_ble_eq_true ?_; rfl) | omega)
  · intro zc10
    first | exact absurd rfl zc10 | exact absurd zc10 (by decide) | exact absurd (by decide) zc10 | (exfalso; first | exact absurd zc22 (by decide) | exact absurd zc32 (by decide) | exact h4 (Int32.not_lt.mp zc56) | exact h4 zc56) | (exfalso; simp_all; done)
  · intro zc10
    have ze10 := zc10
    refine hB bX11_foretold_13 _ _ _ _ _ _ _ kX11_foretold_13 ?_
    dsimp only [bX11_foretold_13, kx_wp, kx_step, kx_lI, kx_lL, kx_lA, kx_gl, kx_pI, kx_pL, kx_pR, kx_pA, kx_pV, kx_s1, kx_s2, kx_sl, kx_pre, kx_c2, kx_pl, kx_cmp, kx_oF, kx_eqN, kx_nil, kx_c1, kx_ft, kx_aI, kx_aL, kx_aR, kx_ln, Nat.reduceAdd, Option.toList, List.cons_append, List.nil_append, mW_o, mf_0, mf_1, mf_84, mf_49, mf_50, mf_51, mf_52]
    repeat (simp only [mu_0, mW_so, mu_84, mu_49, mu_50, mu_51, mu_52, mu_1, show upd M 0 0 1 = M 1 from rfl, show upd M 0 0 84 = M 84 from rfl, show upd M 0 0 49 = M 49 from rfl, show upd M 0 0 50 = M 50 from rfl, show upd M 0 0 51 = M 51 from rfl, show upd M 0 0 52 = M 52 from rfl]; try dsimp only [kx_wp, kx_step, kx_lI, kx_lL, kx_lA, kx_gl, kx_pI, kx_pL, kx_pR, kx_pA, kx_pV, kx_s1, kx_s2, kx_sl, kx_pre, kx_c2, kx_pl, kx_cmp, kx_oF, kx_eqN, kx_nil, kx_c1, kx_ft, kx_aI, kx_aL, kx_aR, kx_ln, Nat.reduceAdd, Option.toList, List.cons_append, List.nil_append, mW_o, mf_0, mf_1, mf_84, mf_49, mf_50, mf_51, mf_52])
    repeat' apply And.intro
    all_goals try (first | with_reducible assumption | (with_reducible refine ck_nzI ?_; simp; done) | (with_reducible refine ck_nzL ?_; simp; done) | (with_reducible refine vp_in_nI ?_ ?_ <;> first | omega | decide) | (with_reducible refine Nat.le_of_ble_eq_true ?_; rfl) | omega)
    refine hC.2.1 167 _ _ _ _ _ _ _ _ _ _ _ _ _ _ _ _ _ lX11_167 (ct_X11_within l G) rfl rfl (Nat.le_of_ble_eq_true rfl) (by decide) (by decide) (by omega) (by omega) dX11_foretold_19 ?_
    rw [if_pos h2]
    refine hB bX11_foretold_22 _ _ _ _ _ _ _ kX11_foretold_22 ?_
    dsimp only [bX11_foretold_22, kx_wp, kx_step, kx_lI, kx_lL, kx_lA, kx_gl, kx_pI, kx_pL, kx_pR, kx_pA, kx_pV, kx_s1, kx_s2, kx_sl, kx_pre, kx_c2, kx_pl, kx_cmp, kx_oF, kx_eqN, kx_nil, kx_c1, kx_ft, kx_aI, kx_aL, kx_aR, kx_ln, Nat.reduceAdd, Option.toList, List.cons_append, List.nil_append, mW_o, mf_0, mf_1, mf_84, mf_49, mf_50, mf_51, mf_52]
    repeat (simp only [mu_0, mW_so, mu_84, mu_49, mu_50, mu_51, mu_52, mu_1, show upd M 0 0 1 = M 1 from rfl, show upd M 0 0 84 = M 84 from rfl, show upd M 0 0 49 = M 49 from rfl, show upd M 0 0 50 = M 50 from rfl, show upd M 0 0 51 = M 51 from rfl, show upd M 0 0 52 = M 52 from rfl]; try dsimp only [kx_wp, kx_step, kx_lI, kx_lL, kx_lA, kx_gl, kx_pI, kx_pL, kx_pR, kx_pA, kx_pV, kx_s1, kx_s2, kx_sl, kx_pre, kx_c2, kx_pl, kx_cmp, kx_oF, kx_eqN, kx_nil, kx_c1, kx_ft, kx_aI, kx_aL, kx_aR, kx_ln, Nat.reduceAdd, Option.toList, List.cons_append, List.nil_append, mW_o, mf_0, mf_1, mf_84, mf_49, mf_50, mf_51, mf_52])
    repeat' apply And.intro
    all_goals try (first | with_reducible assumption | (with_reducible refine ck_nzI ?_; simp; done) | (with_reducible refine ck_nzL ?_; simp; done) | (with_reducible refine vp_in_nI ?_ ?_ <;> first | omega | decide) | (with_reducible refine Nat.le_of_ble_eq_true ?_; rfl) | omega)
    · intro zc22
      first | exact absurd rfl zc22 | exact absurd zc22 (by decide) | exact absurd (by decide) zc22 | (exfalso; first | exact absurd zc22 (by decide) | exact absurd zc32 (by decide) | exact h4 (Int32.not_lt.mp zc56) | exact h4 zc56) | (exfalso; simp_all; done)
    · intro zc22
      have ze22 := zc22
      refine hB bX11_foretold_25 _ _ _ _ _ _ _ kX11_foretold_25 ?_
      dsimp only [bX11_foretold_25, kx_wp, kx_step, kx_lI, kx_lL, kx_lA, kx_gl, kx_pI, kx_pL, kx_pR, kx_pA, kx_pV, kx_s1, kx_s2, kx_sl, kx_pre, kx_c2, kx_pl, kx_cmp, kx_oF, kx_eqN, kx_nil, kx_c1, kx_ft, kx_aI, kx_aL, kx_aR, kx_ln, Nat.reduceAdd, Option.toList, List.cons_append, List.nil_append, mW_o, mf_0, mf_1, mf_84, mf_49, mf_50, mf_51, mf_52]
      repeat (simp only [mu_0, mW_so, mu_84, mu_49, mu_50, mu_51, mu_52, mu_1, show upd M 0 0 1 = M 1 from rfl, show upd M 0 0 84 = M 84 from rfl, show upd M 0 0 49 = M 49 from rfl, show upd M 0 0 50 = M 50 from rfl, show upd M 0 0 51 = M 51 from rfl, show upd M 0 0 52 = M 52 from rfl]; try dsimp only [kx_wp, kx_step, kx_lI, kx_lL, kx_lA, kx_gl, kx_pI, kx_pL, kx_pR, kx_pA, kx_pV, kx_s1, kx_s2, kx_sl, kx_pre, kx_c2, kx_pl, kx_cmp, kx_oF, kx_eqN, kx_nil, kx_c1, kx_ft, kx_aI, kx_aL, kx_aR, kx_ln, Nat.reduceAdd, Option.toList, List.cons_append, List.nil_append, mW_o, mf_0, mf_1, mf_84, mf_49, mf_50, mf_51, mf_52])
      repeat' apply And.intro
      all_goals try (first | with_reducible assumption | (with_reducible refine ck_nzI ?_; simp; done) | (with_reducible refine ck_nzL ?_; simp; done) | (with_reducible refine vp_in_nI ?_ ?_ <;> first | omega | decide) | (with_reducible refine Nat.le_of_ble_eq_true ?_; rfl) | omega)
      refine hC.2.1 167 _ _ _ _ _ _ _ _ _ _ _ _ _ _ _ _ _ lX11_167 (ct_X11_within l G) rfl rfl (Nat.le_of_ble_eq_true rfl) (by decide) (by decide) (by omega) (by omega) dX11_foretold_29 ?_
      rw [if_pos h3]
      refine hB bX11_foretold_32 _ _ _ _ _ _ _ kX11_foretold_32 ?_
      dsimp only [bX11_foretold_32, kx_wp, kx_step, kx_lI, kx_lL, kx_lA, kx_gl, kx_pI, kx_pL, kx_pR, kx_pA, kx_pV, kx_s1, kx_s2, kx_sl, kx_pre, kx_c2, kx_pl, kx_cmp, kx_oF, kx_eqN, kx_nil, kx_c1, kx_ft, kx_aI, kx_aL, kx_aR, kx_ln, Nat.reduceAdd, Option.toList, List.cons_append, List.nil_append, mW_o, mf_0, mf_1, mf_84, mf_49, mf_50, mf_51, mf_52]
      repeat (simp only [mu_0, mW_so, mu_84, mu_49, mu_50, mu_51, mu_52, mu_1, show upd M 0 0 1 = M 1 from rfl, show upd M 0 0 84 = M 84 from rfl, show upd M 0 0 49 = M 49 from rfl, show upd M 0 0 50 = M 50 from rfl, show upd M 0 0 51 = M 51 from rfl, show upd M 0 0 52 = M 52 from rfl]; try dsimp only [kx_wp, kx_step, kx_lI, kx_lL, kx_lA, kx_gl, kx_pI, kx_pL, kx_pR, kx_pA, kx_pV, kx_s1, kx_s2, kx_sl, kx_pre, kx_c2, kx_pl, kx_cmp, kx_oF, kx_eqN, kx_nil, kx_c1, kx_ft, kx_aI, kx_aL, kx_aR, kx_ln, Nat.reduceAdd, Option.toList, List.cons_append, List.nil_append, mW_o, mf_0, mf_1, mf_84, mf_49, mf_50, mf_51, mf_52])
      repeat' apply And.intro
      all_goals try (first | with_reducible assumption | (with_reducible refine ck_nzI ?_; simp; done) | (with_reducible refine ck_nzL ?_; simp; done) | (with_reducible refine vp_in_nI ?_ ?_ <;> first | omega | decide) | (with_reducible refine Nat.le_of_ble_eq_true ?_; rfl) | omega)
      · intro zc32
        first | exact absurd rfl zc32 | exact absurd zc32 (by decide) | exact absurd (by decide) zc32 | (exfalso; first | exact absurd zc22 (by decide) | exact absurd zc32 (by decide) | exact h4 (Int32.not_lt.mp zc56) | exact h4 zc56) | (exfalso; simp_all; done)
      · intro zc32
        have ze32 := zc32
        refine hB bX11_foretold_35 _ _ _ _ _ _ _ kX11_foretold_35 ?_
        dsimp only [bX11_foretold_35, kx_wp, kx_step, kx_lI, kx_lL, kx_lA, kx_gl, kx_pI, kx_pL, kx_pR, kx_pA, kx_pV, kx_s1, kx_s2, kx_sl, kx_pre, kx_c2, kx_pl, kx_cmp, kx_oF, kx_eqN, kx_nil, kx_c1, kx_ft, kx_aI, kx_aL, kx_aR, kx_ln, Nat.reduceAdd, Option.toList, List.cons_append, List.nil_append, mW_o, mf_0, mf_1, mf_84, mf_49, mf_50, mf_51, mf_52]
        repeat (simp only [mu_0, mW_so, mu_84, mu_49, mu_50, mu_51, mu_52, mu_1, show upd M 0 0 1 = M 1 from rfl, show upd M 0 0 84 = M 84 from rfl, show upd M 0 0 49 = M 49 from rfl, show upd M 0 0 50 = M 50 from rfl, show upd M 0 0 51 = M 51 from rfl, show upd M 0 0 52 = M 52 from rfl]; try dsimp only [kx_wp, kx_step, kx_lI, kx_lL, kx_lA, kx_gl, kx_pI, kx_pL, kx_pR, kx_pA, kx_pV, kx_s1, kx_s2, kx_sl, kx_pre, kx_c2, kx_pl, kx_cmp, kx_oF, kx_eqN, kx_nil, kx_c1, kx_ft, kx_aI, kx_aL, kx_aR, kx_ln, Nat.reduceAdd, Option.toList, List.cons_append, List.nil_append, mW_o, mf_0, mf_1, mf_84, mf_49, mf_50, mf_51, mf_52])
        repeat' apply And.intro
        all_goals try (first | with_reducible assumption | (with_reducible refine ck_nzI ?_; simp; done) | (with_reducible refine ck_nzL ?_; simp; done) | (with_reducible refine vp_in_nI ?_ ?_ <;> first | omega | decide) | (with_reducible refine Nat.le_of_ble_eq_true ?_; rfl) | omega)
        refine hB bX11_foretold_40 _ _ _ _ _ _ _ kX11_foretold_40 ?_
        dsimp only [bX11_foretold_40, kx_wp, kx_step, kx_lI, kx_lL, kx_lA, kx_gl, kx_pI, kx_pL, kx_pR, kx_pA, kx_pV, kx_s1, kx_s2, kx_sl, kx_pre, kx_c2, kx_pl, kx_cmp, kx_oF, kx_eqN, kx_nil, kx_c1, kx_ft, kx_aI, kx_aL, kx_aR, kx_ln, Nat.reduceAdd, Option.toList, List.cons_append, List.nil_append, mW_o, mf_0, mf_1, mf_84, mf_49, mf_50, mf_51, mf_52]
        repeat (simp only [mu_0, mW_so, mu_84, mu_49, mu_50, mu_51, mu_52, mu_1, show upd M 0 0 1 = M 1 from rfl, show upd M 0 0 84 = M 84 from rfl, show upd M 0 0 49 = M 49 from rfl, show upd M 0 0 50 = M 50 from rfl, show upd M 0 0 51 = M 51 from rfl, show upd M 0 0 52 = M 52 from rfl]; try dsimp only [kx_wp, kx_step, kx_lI, kx_lL, kx_lA, kx_gl, kx_pI, kx_pL, kx_pR, kx_pA, kx_pV, kx_s1, kx_s2, kx_sl, kx_pre, kx_c2, kx_pl, kx_cmp, kx_oF, kx_eqN, kx_nil, kx_c1, kx_ft, kx_aI, kx_aL, kx_aR, kx_ln, Nat.reduceAdd, Option.toList, List.cons_append, List.nil_append, mW_o, mf_0, mf_1, mf_84, mf_49, mf_50, mf_51, mf_52])
        repeat' apply And.intro
        all_goals try (first | with_reducible assumption | (with_reducible refine ck_nzI ?_; simp; done) | (with_reducible refine ck_nzL ?_; simp; done) | (with_reducible refine vp_in_nI ?_ ?_ <;> first | omega | decide) | (with_reducible refine Nat.le_of_ble_eq_true ?_; rfl) | omega)
        refine hC.1 171 _ _ _ _ _ _ _ 11 _ _ _ _ _ _ _ _ _ _ _ _ lX11_171 (ct_X11_may_t l G (M := upd M 0 0) rfl) ⟨by decide, rfl⟩ (mW_o) rfl rfl (Nat.le_of_ble_eq_true rfl) (by decide) (by decide) (by omega) (by omega) dX11_foretold_41 ?_
        refine hB bX11_foretold_44 _ _ _ _ _ _ _ kX11_foretold_44 ?_
        dsimp only [bX11_foretold_44, kx_wp, kx_step, kx_lI, kx_lL, kx_lA, kx_gl, kx_pI, kx_pL, kx_pR, kx_pA, kx_pV, kx_s1, kx_s2, kx_sl, kx_pre, kx_c2, kx_pl, kx_cmp, kx_oF, kx_eqN, kx_nil, kx_c1, kx_ft, kx_aI, kx_aL, kx_aR, kx_ln, Nat.reduceAdd, Option.toList, List.cons_append, List.nil_append, mW_o, mf_0, mf_1, mf_84, mf_49, mf_50, mf_51, mf_52]
        repeat (simp only [mu_0, mW_so, mu_84, mu_49, mu_50, mu_51, mu_52, mu_1, show upd M 0 0 1 = M 1 from rfl, show upd M 0 0 84 = M 84 from rfl, show upd M 0 0 49 = M 49 from rfl, show upd M 0 0 50 = M 50 from rfl, show upd M 0 0 51 = M 51 from rfl, show upd M 0 0 52 = M 52 from rfl]; try dsimp only [kx_wp, kx_step, kx_lI, kx_lL, kx_lA, kx_gl, kx_pI, kx_pL, kx_pR, kx_pA, kx_pV, kx_s1, kx_s2, kx_sl, kx_pre, kx_c2, kx_pl, kx_cmp, kx_oF, kx_eqN, kx_nil, kx_c1, kx_ft, kx_aI, kx_aL, kx_aR, kx_ln, Nat.reduceAdd, Option.toList, List.cons_append, List.nil_append, mW_o, mf_0, mf_1, mf_84, mf_49, mf_50, mf_51, mf_52])
        repeat' apply And.intro
        all_goals try (first | with_reducible assumption | (with_reducible refine ck_nzI ?_; simp; done) | (with_reducible refine ck_nzL ?_; simp; done) | (with_reducible refine vp_in_nI ?_ ?_ <;> first | omega | decide) | (with_reducible refine Nat.le_of_ble_eq_true ?_; rfl) | omega)
        · intro zc44
          first | exact absurd rfl zc44 | exact absurd zc44 (by decide) | exact absurd (by decide) zc44 | (exfalso; first | exact absurd zc22 (by decide) | exact absurd zc32 (by decide) | exact h4 (Int32.not_lt.mp zc56) | exact h4 zc56) | (exfalso; simp_all; done)
        · intro zc44
          have ze44 := zc44
          refine hB bX11_foretold_47 _ _ _ _ _ _ _ kX11_foretold_47 ?_
          dsimp only [bX11_foretold_47, kx_wp, kx_step, kx_lI, kx_lL, kx_lA, kx_gl, kx_pI, kx_pL, kx_pR, kx_pA, kx_pV, kx_s1, kx_s2, kx_sl, kx_pre, kx_c2, kx_pl, kx_cmp, kx_oF, kx_eqN, kx_nil, kx_c1, kx_ft, kx_aI, kx_aL, kx_aR, kx_ln, Nat.reduceAdd, Option.toList, List.cons_append, List.nil_append, mW_o, mf_0, mf_1, mf_84, mf_49, mf_50, mf_51, mf_52]
          repeat (simp only [mu_0, mW_so, mu_84, mu_49, mu_50, mu_51, mu_52, mu_1, show upd M 0 0 1 = M 1 from rfl, show upd M 0 0 84 = M 84 from rfl, show upd M 0 0 49 = M 49 from rfl, show upd M 0 0 50 = M 50 from rfl, show upd M 0 0 51 = M 51 from rfl, show upd M 0 0 52 = M 52 from rfl]; try dsimp only [kx_wp, kx_step, kx_lI, kx_lL, kx_lA, kx_gl, kx_pI, kx_pL, kx_pR, kx_pA, kx_pV, kx_s1, kx_s2, kx_sl, kx_pre, kx_c2, kx_pl, kx_cmp, kx_oF, kx_eqN, kx_nil, kx_c1, kx_ft, kx_aI, kx_aL, kx_aR, kx_ln, Nat.reduceAdd, Option.toList, List.cons_append, List.nil_append, mW_o, mf_0, mf_1, mf_84, mf_49, mf_50, mf_51, mf_52])
          repeat' apply And.intro
          all_goals try (first | with_reducible assumption | (with_reducible refine ck_nzI ?_; simp; done) | (with_reducible refine ck_nzL ?_; simp; done) | (with_reducible refine vp_in_nI ?_ ?_ <;> first | omega | decide) | (with_reducible refine Nat.le_of_ble_eq_true ?_; rfl) | omega)
          · intro zc56
            with_reducible first | have ze56 := Int32.not_le.mpr zc56 | have ze56 := zc56
            refine hB bX11_foretold_63 _ _ _ _ _ _ _ kX11_foretold_63 ?_
            dsimp only [bX11_foretold_63, kx_wp, kx_step, kx_lI, kx_lL, kx_lA, kx_gl, kx_pI, kx_pL, kx_pR, kx_pA, kx_pV, kx_s1, kx_s2, kx_sl, kx_pre, kx_c2, kx_pl, kx_cmp, kx_oF, kx_eqN, kx_nil, kx_c1, kx_ft, kx_aI, kx_aL, kx_aR, kx_ln, Nat.reduceAdd, Option.toList, List.cons_append, List.nil_append, mW_o, mf_0, mf_1, mf_84, mf_49, mf_50, mf_51, mf_52]
            repeat (simp only [mu_0, mW_so, mu_84, mu_49, mu_50, mu_51, mu_52, mu_1, show upd M 0 0 1 = M 1 from rfl, show upd M 0 0 84 = M 84 from rfl, show upd M 0 0 49 = M 49 from rfl, show upd M 0 0 50 = M 50 from rfl, show upd M 0 0 51 = M 51 from rfl, show upd M 0 0 52 = M 52 from rfl]; try dsimp only [kx_wp, kx_step, kx_lI, kx_lL, kx_lA, kx_gl, kx_pI, kx_pL, kx_pR, kx_pA, kx_pV, kx_s1, kx_s2, kx_sl, kx_pre, kx_c2, kx_pl, kx_cmp, kx_oF, kx_eqN, kx_nil, kx_c1, kx_ft, kx_aI, kx_aL, kx_aR, kx_ln, Nat.reduceAdd, Option.toList, List.cons_append, List.nil_append, mW_o, mf_0, mf_1, mf_84, mf_49, mf_50, mf_51, mf_52])
            repeat' apply And.intro
            all_goals try (first | with_reducible assumption | (with_reducible refine ck_nzI ?_; simp; done) | (with_reducible refine ck_nzL ?_; simp; done) | (with_reducible refine vp_in_nI ?_ ?_ <;> first | omega | decide) | (with_reducible refine Nat.le_of_ble_eq_true ?_; rfl) | omega)
            refine hB bX11_foretold_64 _ _ _ _ _ _ _ kX11_foretold_64 ?_
            dsimp only [bX11_foretold_64, kx_wp, kx_step, kx_lI, kx_lL, kx_lA, kx_gl, kx_pI, kx_pL, kx_pR, kx_pA, kx_pV, kx_s1, kx_s2, kx_sl, kx_pre, kx_c2, kx_pl, kx_cmp, kx_oF, kx_eqN, kx_nil, kx_c1, kx_ft, kx_aI, kx_aL, kx_aR, kx_ln, Nat.reduceAdd, Option.toList, List.cons_append, List.nil_append, mW_o, mf_0, mf_1, mf_84, mf_49, mf_50, mf_51, mf_52]
            repeat (simp only [mu_0, mW_so, mu_84, mu_49, mu_50, mu_51, mu_52, mu_1, show upd M 0 0 1 = M 1 from rfl, show upd M 0 0 84 = M 84 from rfl, show upd M 0 0 49 = M 49 from rfl, show upd M 0 0 50 = M 50 from rfl, show upd M 0 0 51 = M 51 from rfl, show upd M 0 0 52 = M 52 from rfl]; try dsimp only [kx_wp, kx_step, kx_lI, kx_lL, kx_lA, kx_gl, kx_pI, kx_pL, kx_pR, kx_pA, kx_pV, kx_s1, kx_s2, kx_sl, kx_pre, kx_c2, kx_pl, kx_cmp, kx_oF, kx_eqN, kx_nil, kx_c1, kx_ft, kx_aI, kx_aL, kx_aR, kx_ln, Nat.reduceAdd, Option.toList, List.cons_append, List.nil_append, mW_o, mf_0, mf_1, mf_84, mf_49, mf_50, mf_51, mf_52])
            repeat' apply And.intro
            all_goals try (first | with_reducible assumption | (with_reducible refine ck_nzI ?_; simp; done) | (with_reducible refine ck_nzL ?_; simp; done) | (with_reducible refine vp_in_nI ?_ ?_ <;> first | omega | decide) | (with_reducible refine Nat.le_of_ble_eq_true ?_; rfl) | omega)
            refine hC.1 171 _ _ _ _ _ _ _ 11 _ _ _ _ _ _ _ _ _ _ _ _ lX11_171 (ct_X11_may_f l G (M := upd M 0 0) rfl (by decide)) ⟨by decide, rfl⟩ (mW_o) rfl rfl (Nat.le_of_ble_eq_true rfl) (by decide) (by decide) (by omega) (by omega) dX11_foretold_65 ?_
            refine hB bX11_foretold_68 _ _ _ _ _ _ _ kX11_foretold_68 ?_
            dsimp only [bX11_foretold_68, kx_wp, kx_step, kx_lI, kx_lL, kx_lA, kx_gl, kx_pI, kx_pL, kx_pR, kx_pA, kx_pV, kx_s1, kx_s2, kx_sl, kx_pre, kx_c2, kx_pl, kx_cmp, kx_oF, kx_eqN, kx_nil, kx_c1, kx_ft, kx_aI, kx_aL, kx_aR, kx_ln, Nat.reduceAdd, Option.toList, List.cons_append, List.nil_append, mW_o, mf_0, mf_1, mf_84, mf_49, mf_50, mf_51, mf_52]
            repeat (simp only [mu_0, mW_so, mu_84, mu_49, mu_50, mu_51, mu_52, mu_1, show upd M 0 0 1 = M 1 from rfl, show upd M 0 0 84 = M 84 from rfl, show upd M 0 0 49 = M 49 from rfl, show upd M 0 0 50 = M 50 from rfl, show upd M 0 0 51 = M 51 from rfl, show upd M 0 0 52 = M 52 from rfl]; try dsimp only [kx_wp, kx_step, kx_lI, kx_lL, kx_lA, kx_gl, kx_pI, kx_pL, kx_pR, kx_pA, kx_pV, kx_s1, kx_s2, kx_sl, kx_pre, kx_c2, kx_pl, kx_cmp, kx_oF, kx_eqN, kx_nil, kx_c1, kx_ft, kx_aI, kx_aL, kx_aR, kx_ln, Nat.reduceAdd, Option.toList, List.cons_append, List.nil_append, mW_o, mf_0, mf_1, mf_84, mf_49, mf_50, mf_51, mf_52])
            repeat' apply And.intro
            all_goals try (first | with_reducible assumption | (with_reducible refine ck_nzI ?_; simp; done) | (with_reducible refine ck_nzL ?_; simp; done) | (with_reducible refine vp_in_nI ?_ ?_ <;> first | omega | decide) | (with_reducible refine Nat.le_of_ble_eq_true ?_; rfl) | omega)
            · intro zc68
              first | exact absurd rfl zc68 | exact absurd zc68 (by decide) | exact absurd (by decide) zc68 | (exfalso; first | exact absurd zc22 (by decide) | exact absurd zc32 (by decide) | exact h4 (Int32.not_lt.mp zc56) | exact h4 zc56) | (exfalso; simp_all; done)
            · intro zc68
              with_reducible first | have ze68 := Decidable.not_not.mp zc68 | have ze68 := zc68
              refine hB bX11_foretold_71 _ _ _ _ _ _ _ kX11_foretold_71 ?_
              dsimp only [bX11_foretold_71, kx_wp, kx_step, kx_lI, kx_lL, kx_lA, kx_gl, kx_pI, kx_pL, kx_pR, kx_pA, kx_pV, kx_s1, kx_s2, kx_sl, kx_pre, kx_c2, kx_pl, kx_cmp, kx_oF, kx_eqN, kx_nil, kx_c1, kx_ft, kx_aI, kx_aL, kx_aR, kx_ln, Nat.reduceAdd, Option.toList, List.cons_append, List.nil_append, mW_o, mf_0, mf_1, mf_84, mf_49, mf_50, mf_51, mf_52]
              repeat (simp only [mu_0, mW_so, mu_84, mu_49, mu_50, mu_51, mu_52, mu_1, show upd M 0 0 1 = M 1 from rfl, show upd M 0 0 84 = M 84 from rfl, show upd M 0 0 49 = M 49 from rfl, show upd M 0 0 50 = M 50 from rfl, show upd M 0 0 51 = M 51 from rfl, show upd M 0 0 52 = M 52 from rfl]; try dsimp only [kx_wp, kx_step, kx_lI, kx_lL, kx_lA, kx_gl, kx_pI, kx_pL, kx_pR, kx_pA, kx_pV, kx_s1, kx_s2, kx_sl, kx_pre, kx_c2, kx_pl, kx_cmp, kx_oF, kx_eqN, kx_nil, kx_c1, kx_ft, kx_aI, kx_aL, kx_aR, kx_ln, Nat.reduceAdd, Option.toList, List.cons_append, List.nil_append, mW_o, mf_0, mf_1, mf_84, mf_49, mf_50, mf_51, mf_52])
              all_goals (repeat' apply And.intro)
              all_goals ((try clear hB hC); first | exact True.intro | with_reducible rfl | with_reducible assumption | (with_reducible refine vp_in_nI ?_ ?_ <;> first | omega | decide) | exact Nat.le_of_ble_eq_true rfl | (with_reducible refine ck_nzI ?_; simp; done) | (with_reducible refine ck_nzL ?_; simp; done) | (simp only [pk_us, pk_uLs, ze10, ze22, ze32, ze44, zc56, ze56, eq_true ze68, ↓reduceIte, not_true_eq_false, not_false_eq_true]; done) | (simp only [ze10, ze22, ze32, ze44, zc56, ze56, eq_true ze68, ↓reduceIte, not_true_eq_false, not_false_eq_true]; with_reducible rfl) | skip)
          · intro zc56
            first | exact absurd rfl zc56 | exact absurd zc56 (by decide) | exact absurd (by decide) zc56 | (exfalso; first | exact absurd zc22 (by decide) | exact absurd zc32 (by decide) | exact h4 (Int32.not_lt.mp zc56) | exact h4 zc56) | (exfalso; simp_all; done)

set_option maxRecDepth 100000 in
set_option maxHeartbeats 4000000 in
theorem ct_X11_foretold_f (l : Launch) (G : kx_G) {M : Nat → Int32} {A : Nat → Nat → Int32} {L : Nat → Nat → Int64} {R : kx_P} {sz : Nat} {x : Int32} {m w : Int32} (hx : ¬ (0 ≤ x ∧ x ≤ M 21 - 1)) : kx_M l G sX11_foretold 6 0 0 [.ref 93, .int (x), .int (m), .int (w)] (mW M A L R) sz (some (.int (0))) (mW (upd (upd M 0 0) 0 1) A L R) sz := by
  refine kx_mk kx_tab kxLok_X11 (ini := false) [some (.ref 93), some (.int (x)), some (.int (m)), some (.int (w)), none] ⟨by decide, rfl, by decide, by decide⟩ (⟨_, rfl⟩) rfl rfl (fun g hB hC => ?_)
  refine hB bX11_foretold_0 _ _ _ _ _ _ _ kX11_foretold_0 ?_
  dsimp only [bX11_foretold_0, kx_wp, kx_step, kx_lI, kx_lL, kx_lA, kx_gl, kx_pI, kx_pL, kx_pR, kx_pA, kx_pV, kx_s1, kx_s2, kx_sl, kx_pre, kx_c2, kx_pl, kx_cmp, kx_oF, kx_eqN, kx_nil, kx_c1, kx_ft, kx_aI, kx_aL, kx_aR, kx_ln, Nat.reduceAdd, Option.toList, List.cons_append, List.nil_append, mW_o, mf_0, mf_1, mf_84, mf_49, mf_50, mf_51, mf_52]
  repeat (simp only [mu_0, mW_so, mu_84, mu_49, mu_50, mu_51, mu_52, mu_1]; try dsimp only [kx_wp, kx_step, kx_lI, kx_lL, kx_lA, kx_gl, kx_pI, kx_pL, kx_pR, kx_pA, kx_pV, kx_s1, kx_s2, kx_sl, kx_pre, kx_c2, kx_pl, kx_cmp, kx_oF, kx_eqN, kx_nil, kx_c1, kx_ft, kx_aI, kx_aL, kx_aR, kx_ln, Nat.reduceAdd, Option.toList, List.cons_append, List.nil_append, mW_o, mf_0, mf_1, mf_84, mf_49, mf_50, mf_51, mf_52])
  repeat' apply And.intro
  all_goals try (first | with_reducible assumption | (with_reducible refine ck_nzI ?_; simp; done) | (with_reducible refine ck_nzL ?_; simp; done) | (with_reducible refine vp_in_nI ?_ ?_ <;> first | omega | decide) | (with_reducible refine Nat.le_of_ble_eq_true ?_; rfl) | omega)
  have hx2 : ¬ (0 ≤ x ∧ x ≤ upd M 0 0 21 - 1) := by rw [show upd M 0 0 21 = M 21 from rfl]; exact hx
  refine hC.1 358 _ _ _ _ _ _ _ 11 _ _ _ _ _ _ _ _ _ _ _ _ lX11_358 (ct_X11_isClock_f l G (M := upd M 0 0) hx2 rfl) ⟨by decide, rfl⟩ (mW_o) rfl rfl (Nat.le_of_ble_eq_true rfl) (by decide) (by decide) (by omega) (by omega) dX11_foretold_7 ?_
  refine hB bX11_foretold_10 _ _ _ _ _ _ _ kX11_foretold_10 ?_
  dsimp only [bX11_foretold_10, kx_wp, kx_step, kx_lI, kx_lL, kx_lA, kx_gl, kx_pI, kx_pL, kx_pR, kx_pA, kx_pV, kx_s1, kx_s2, kx_sl, kx_pre, kx_c2, kx_pl, kx_cmp, kx_oF, kx_eqN, kx_nil, kx_c1, kx_ft, kx_aI, kx_aL, kx_aR, kx_ln, Nat.reduceAdd, Option.toList, List.cons_append, List.nil_append, mW_o, mf_0, mf_1, mf_84, mf_49, mf_50, mf_51, mf_52]
  repeat (simp only [mu_0, mW_so, mu_84, mu_49, mu_50, mu_51, mu_52, mu_1]; try dsimp only [kx_wp, kx_step, kx_lI, kx_lL, kx_lA, kx_gl, kx_pI, kx_pL, kx_pR, kx_pA, kx_pV, kx_s1, kx_s2, kx_sl, kx_pre, kx_c2, kx_pl, kx_cmp, kx_oF, kx_eqN, kx_nil, kx_c1, kx_ft, kx_aI, kx_aL, kx_aR, kx_ln, Nat.reduceAdd, Option.toList, List.cons_append, List.nil_append, mW_o, mf_0, mf_1, mf_84, mf_49, mf_50, mf_51, mf_52])
  repeat' apply And.intro
  all_goals try (first | with_reducible assumption | (with_reducible refine ck_nzI ?_; simp; done) | (with_reducible refine ck_nzL ?_; simp; done) | (with_reducible refine vp_in_nI ?_ ?_ <;> first | omega | decide) | (with_reducible refine Nat.le_of_ble_eq_true ?_; rfl) | omega)
  · intro zc10
    have ze10 := zc10
    refine hB bX11_foretold_71 _ _ _ _ _ _ _ kX11_foretold_71 ?_
    dsimp only [bX11_foretold_71, kx_wp, kx_step, kx_lI, kx_lL, kx_lA, kx_gl, kx_pI, kx_pL, kx_pR, kx_pA, kx_pV, kx_s1, kx_s2, kx_sl, kx_pre, kx_c2, kx_pl, kx_cmp, kx_oF, kx_eqN, kx_nil, kx_c1, kx_ft, kx_aI, kx_aL, kx_aR, kx_ln, Nat.reduceAdd, Option.toList, List.cons_append, List.nil_append, mW_o, mf_0, mf_1, mf_84, mf_49, mf_50, mf_51, mf_52]
    repeat (simp only [mu_0, mW_so, mu_84, mu_49, mu_50, mu_51, mu_52, mu_1]; try dsimp only [kx_wp, kx_step, kx_lI, kx_lL, kx_lA, kx_gl, kx_pI, kx_pL, kx_pR, kx_pA, kx_pV, kx_s1, kx_s2, kx_sl, kx_pre, kx_c2, kx_pl, kx_cmp, kx_oF, kx_eqN, kx_nil, kx_c1, kx_ft, kx_aI, kx_aL, kx_aR, kx_ln, Nat.reduceAdd, Option.toList, List.cons_append, List.nil_append, mW_o, mf_0, mf_1, mf_84, mf_49, mf_50, mf_51, mf_52])
    all_goals (repeat' apply And.intro)
    all_goals ((try clear hB hC); first | exact True.intro | with_reducible rfl | with_reducible assumption | (with_reducible refine vp_in_nI ?_ ?_ <;> first | omega | decide) | exact Nat.le_of_ble_eq_true rfl | (with_reducible refine ck_nzI ?_; simp; done) | (with_reducible refine ck_nzL ?_; simp; done) | (simp only [pk_us, pk_uLs, eq_true ze10, ↓reduceIte, not_true_eq_false, not_false_eq_true]; done) | (simp only [eq_true ze10, ↓reduceIte, not_true_eq_false, not_false_eq_true]; with_reducible rfl) | skip)
  · intro zc10
    first | exact absurd rfl zc10 | exact absurd zc10 (by decide) | exact absurd (by decide) zc10 | (exfalso; ((try clear hB hC); simp only [ck_lt, ck_le, ck_eq, not_true_eq_false, not_false_eq_true, Int32.reduceToInt, Int32.reduceAdd, Int32.reduceSub, Int32.reduceMul] at * <;> omega)) | (exfalso; simp_all; done)

/-! foretelling leaves the clocks as they were -/
theorem ck_kp_f {M : Nat → Int32} {A : Nat → Nat → Int32} {c s : Int32} (h : ¬ M 49 = 0) : (ck_kp M A c s).2 = A := by
  unfold ck_kp
  rw [if_neg h]
  split <;> rfl
theorem ck_go_Af {S : ck_S} {c k : Nat} (h49 : ¬ S.1 49 = 0) (h : (k < 108 ∨ 112 < k) ∧ k ≠ 123) : (ck_go S c).2.1 k = S.2.1 k := by
  refine ck_go_by S c (fun T => T.2.1 k = S.2.1 k) (fun _ => rfl) (fun _ _ => va_upn (by omega))
    (fun _ _ _ _ e _ => (ck_sn_A (by omega) (by omega) (by omega)).trans ((e k (by omega) (by omega)).trans (va_upn (by omega)))) ?_
  intro n A2 t s _ e _
  dsimp only
  rw [ck_kp_f (by rw [ck_sn_M (by decide) (by decide)]; exact h49)]
  exact (ck_sn_A (by omega) (by omega) (by omega)).trans ((e k (by omega) (by omega)).trans (va_upn (by omega)))
theorem ck_gs_Af {S : ck_S} {k : Nat} (h49 : ¬ S.1 49 = 0) (h : (k < 108 ∨ 112 < k) ∧ k ≠ 123) : ∀ n, (ck_gs S n).2.1 k = S.2.1 k
  | 0 => rfl
  | n + 1 => (ck_go_Af (by rw [ck_gs_M (by decide) (by decide) (by decide) (by decide) (by decide)]; exact h49) h).trans (ck_gs_Af h49 h n)
theorem ck_gs_j {S : ck_S} {k j : Nat} (h : (k < 118 ∨ 121 < k) ∧ k ≠ 123) : ∀ n, n ≤ j → (ck_gs S n).2.1 k j = S.2.1 k j
  | 0, _ => rfl
  | n + 1, hn => (ck_go_j (by omega) h).trans (ck_gs_j h n (by omega))
theorem ck_gs_L {S : ck_S} {k : Nat} (h : k ≠ 116) : ∀ n, (ck_gs S n).2.2 k = S.2.2 k
  | 0 => rfl
  | n + 1 => (ck_go_L h).trans (ck_gs_L h n)
theorem ck_gs_Lj {S : ck_S} {j : Nat} : ∀ n, n ≤ j → (ck_gs S n).2.2 116 j = S.2.2 116 j
  | 0, _ => rfl
  | n + 1, hn => (ck_go_Lj (by omega)).trans (ck_gs_Lj n (by omega))
theorem ck_gs_22 {S : ck_S} (h49 : ¬ S.1 49 = 0) : ∀ n, (ck_gs S n).1 22 = S.1 22
  | 0 => rfl
  | n + 1 => by
    rcases ck_go_22 (ck_gs S n) n with e | ⟨e, -⟩
    · exact e.trans (ck_gs_22 h49 n)
    · rw [ck_gs_M (by decide) (by decide) (by decide) (by decide) (by decide)] at e
      exact absurd e h49
theorem ck_mgA_f {S : ck_S} {cl : Nat} (h49 : ¬ S.1 49 = 0) : ck_mgA S cl = S.2.1 := by
  unfold ck_mgA
  rw [if_neg (fun h => h49 h.2)]
theorem ck_mn_Af {S : ck_S} {cl k : Nat} (h49 : ¬ S.1 49 = 0) (h : (k < 108 ∨ 112 < k) ∧ k ≠ 123) : (ck_mn S cl).2.1 k = S.2.1 k := by
  unfold ck_mn
  rw [ck_mgA_f h49]
  exact ck_gs_Af (S := (S.1, S.2.1, S.2.2)) h49 h cl
theorem ck_mn_jf {S : ck_S} {cl k j : Nat} (h49 : ¬ S.1 49 = 0) (h : (k < 118 ∨ 121 < k) ∧ k ≠ 123) (hj : cl ≤ j) : (ck_mn S cl).2.1 k j = S.2.1 k j := by
  unfold ck_mn
  rw [ck_mgA_f h49]
  exact ck_gs_j (S := (S.1, S.2.1, S.2.2)) h cl hj
theorem ck_mns_49 {S : ck_S} {cl n : Nat} (h49 : ¬ S.1 49 = 0) : ¬ (ck_mns S cl n).1 49 = 0 := by
  rw [ck_mns_M (by decide) (by decide) (by decide) (by decide) (by decide) (by decide)]; exact h49
theorem ck_mns_Af {S : ck_S} {cl k : Nat} (h49 : ¬ S.1 49 = 0) (h : (k < 108 ∨ 112 < k) ∧ k ≠ 123) : ∀ n, (ck_mns S cl n).2.1 k = S.2.1 k
  | 0 => rfl
  | n + 1 => (ck_mn_Af (ck_mns_49 h49) h).trans (ck_mns_Af h49 h n)
theorem ck_mns_jf {S : ck_S} {cl k j : Nat} (h49 : ¬ S.1 49 = 0) (h : (k < 118 ∨ 121 < k) ∧ k ≠ 123) (hj : cl ≤ j) : ∀ n, (ck_mns S cl n).2.1 k j = S.2.1 k j
  | 0 => rfl
  | n + 1 => (ck_mn_jf (ck_mns_49 h49) h hj).trans (ck_mns_jf h49 h hj n)
theorem ck_mns_L {S : ck_S} {cl k : Nat} (h : k ≠ 116) : ∀ n, (ck_mns S cl n).2.2 k = S.2.2 k
  | 0 => rfl
  | n + 1 => (ck_gs_L (S := ((ck_mns S cl n).1, ck_mgA (ck_mns S cl n) cl, (ck_mns S cl n).2.2)) h cl).trans (ck_mns_L h n)
theorem ck_mns_Lj {S : ck_S} {cl j : Nat} (hj : cl ≤ j) : ∀ n, (ck_mns S cl n).2.2 116 j = S.2.2 116 j
  | 0 => rfl
  | n + 1 => (ck_gs_Lj (S := ((ck_mns S cl n).1, ck_mgA (ck_mns S cl n) cl, (ck_mns S cl n).2.2)) cl hj).trans (ck_mns_Lj hj n)
theorem ck_mns_22 {S : ck_S} {cl : Nat} (h49 : ¬ S.1 49 = 0) : ∀ n, (ck_mns S cl n).1 22 = S.1 22
  | 0 => rfl
  | n + 1 => by
    have h := ck_mns_49 (cl := cl) (n := n) h49
    refine Eq.trans ?_ (ck_mns_22 (cl := cl) h49 n)
    rw [ck_mns, ck_mn]
    dsimp only
    rw [pk_un (by decide)]
    exact ck_gs_22 (S := ((ck_mns S cl n).1, ck_mgA (ck_mns S cl n) cl, (ck_mns S cl n).2.2)) h cl
theorem ck_cp_back {α : Type} {f g h : Nat → α} {n : Nat} (h1 : ∀ j, j < n → g j = h j) (h2 : ∀ j, n ≤ j → f j = h j) : ck_cp f g n = h := by
  funext j
  unfold ck_cp
  by_cases hj : j < n
  · rw [if_pos hj]; exact h1 j hj
  · rw [if_neg hj]; exact h2 j (by omega)
theorem ck_fS_49 {M : Nat → Int32} {A : Nat → Nat → Int32} {L : Nat → Nat → Int64} {cl c : Nat} : ¬ (ck_fS M A L cl c).1 49 = 0 := by
  show ¬ (1 : Int32) = 0
  decide
theorem ck_fo_c {M : Nat → Int32} {A : Nat → Nat → Int32} {L : Nat → Nat → Int64} {cl c k a b : Nat} (ha : (a < 118 ∨ 121 < a) ∧ a ≠ 123) (hb : (b < 108 ∨ 112 < b) ∧ b ≠ 123) (e : (ck_fS M A L cl c).2.1 b = ck_cp (A b) (A a) cl) (e2 : (ck_fS M A L cl c).2.1 a = A a) :
    ck_cp ((ck_mns (ck_fS M A L cl c) cl k).2.1 a) ((ck_mns (ck_fS M A L cl c) cl k).2.1 b) cl = A a := by
  refine ck_cp_back (fun j hj => ?_) (fun j hj => ?_)
  · rw [ck_mns_Af ck_fS_49 hb, e]; unfold ck_cp; rw [if_pos hj]
  · rw [ck_mns_jf ck_fS_49 ha hj, e2]
theorem ck_fo_A {M : Nat → Int32} {A : Nat → Nat → Int32} {L : Nat → Nat → Int64} {cl c k i : Nat} (hi : i ≠ 123 ∧ (i < 137 ∨ 141 < i)) : (ck_fo M A L cl c k).2.1 i = A i := by
  unfold ck_fo
  dsimp only
  by_cases h : i < 108 ∨ 112 < i
  · rw [ck_rsA_n (by omega), ck_mns_Af ck_fS_49 (by omega)]
    exact ck_svA_n (by omega)
  · have h2 : i = 108 ∨ i = 109 ∨ i = 110 ∨ i = 111 ∨ i = 112 := by omega
    rcases h2 with rfl | rfl | rfl | rfl | rfl
    · exact ck_fo_c (by decide) (by decide) rfl rfl
    · exact ck_fo_c (by decide) (by decide) rfl rfl
    · exact ck_fo_c (by decide) (by decide) rfl rfl
    · exact ck_fo_c (by decide) (by decide) rfl rfl
    · exact ck_fo_c (by decide) (by decide) rfl rfl
theorem ck_fo_L {M : Nat → Int32} {A : Nat → Nat → Int32} {L : Nat → Nat → Int64} {cl c k : Nat} : (ck_fo M A L cl c k).2.2 116 = L 116 := by
  unfold ck_fo
  dsimp only
  rw [va_us]
  refine ck_cp_back (fun j hj => ?_) (fun j hj => ?_)
  · rw [ck_mns_L (by decide)]
    show ck_cp (L 142) (L 116) cl j = _
    unfold ck_cp; rw [if_pos hj]
  · rw [ck_mns_Lj hj]; rfl
theorem ck_fo_M {M : Nat → Int32} {A : Nat → Nat → Int32} {L : Nat → Nat → Int64} {cl c k j : Nat} (h : j ≠ 47 ∧ j ≠ 48 ∧ j ≠ 49 ∧ j ≠ 50 ∧ j ≠ 51 ∧ j ≠ 52 ∧ j ≠ 84) : (ck_fo M A L cl c k).1 j = upd M 0 0 j := by
  unfold ck_fo
  dsimp only
  have e0 : (ck_fS M A L cl c).1 j = upd M 0 0 j := by
    unfold ck_fS
    dsimp only
    rw [pk_un (by omega), pk_un (by omega), pk_un (by omega), pk_un (by omega), pk_un (by omega)]
  by_cases h1 : j = 1
  · subst h1; rw [pk_us]; rfl
  · rw [pk_un h1, pk_un (by omega)]
    by_cases h22 : j = 22
    · subst h22; rw [ck_mns_22 ck_fS_49]; exact e0
    · rw [ck_mns_M h1 h22 (by omega) (by omega) (by omega) (by omega)]; exact e0
theorem ck_fo_49 {M : Nat → Int32} {A : Nat → Nat → Int32} {L : Nat → Nat → Int64} {cl c k : Nat} : (ck_fo M A L cl c k).1 49 = 0 := rfl


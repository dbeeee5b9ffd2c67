abbrev ck_T : Type := (Nat → Int32) × (Nat → Nat → Int32)
def ck_fold {α : Type} (f : Nat → α → α) : Nat → α → α
  | 0, s => s
  | c + 1, s => f c (ck_fold f c s)
theorem ck_fold_s {α : Type} (f : Nat → α → α) (c : Nat) (s : α) : ck_fold f (c + 1) s = f c (ck_fold f c s) := rfl
theorem ck_fold_0 {α : Type} (f : Nat → α → α) (s : α) : ck_fold f 0 s = s := rfl
/-- an order of the round is whole: it stays if it is better -/
def ck_tl (S : ck_T) (k : Nat) (tm sp : Int32) : ck_T :=
  let r : ck_T := (upd (upd (upd S.1 63 (nI k)) 61 sp) 62 tm, va_up S.2 127 (ck_cp (S.2 127) (S.2 126) k))
  if S.1 63 ≤ 0 then r else if S.1 61 < sp then S else if sp = S.1 61 then (if tm < S.1 62 then r else S) else r
def ck_trF (rec : ck_T → Int32 → Nat → Int32 → Int32 → Int32 → Int32 → ck_T) (set : Int32) (k : Nat) (x y tm sp : Int32) (c : Nat) (T : ck_T) : ck_T :=
  if (set >>> (nI c &&& 31)) &&& 1 = 0 then T else
  rec (T.1, va_up T.2 126 (upd (T.2 126) k (nI c))) (set &&& ((1 <<< (nI c &&& 31)) ^^^ (-1))) (k + 1) (T.2 100 c) (T.2 101 c)
    (tm + ck_wy T.2 x y c + (1440 * T.2 102 (16 * c + 0) - (if tm + ck_wy T.2 x y c < T.2 108 c then T.2 108 c - (tm + ck_wy T.2 x y c) else 0) + 1440 - 1) / 1440)
    (sp + if (if tm + ck_wy T.2 x y c < T.2 108 c then T.2 108 c - (tm + ck_wy T.2 x y c) else 0) = 0 then 1 else 0)
/-- all orders of set's clocks, behind k that stand -/
def ck_try (cl : Nat) : Nat → ck_T → Int32 → Nat → Int32 → Int32 → Int32 → Int32 → ck_T
  | 0, S, _, k, _, _, tm, sp => ck_tl S k tm sp
  | n + 1, S, set, k, x, y, tm, sp => if set = 0 then ck_tl S k tm sp else ck_fold (ck_trF (ck_try cl n) set k x y tm sp) cl S
theorem ck_tl_M {S : ck_T} {k : Nat} {tm sp : Int32} {j : Nat} (h : j ≠ 61 ∧ j ≠ 62 ∧ j ≠ 63) : (ck_tl S k tm sp).1 j = S.1 j := by
  have e : upd (upd (upd S.1 63 (nI k)) 61 sp) 62 tm j = S.1 j := by rw [pk_un h.2.1, pk_un h.1, pk_un h.2.2]
  unfold ck_tl
  dsimp only
  split
  · exact e
  · split
    · rfl
    · split
      · split
        · exact e
        · rfl
      · exact e
theorem ck_tl_A {S : ck_T} {k : Nat} {tm sp : Int32} {j : Nat} (h : j ≠ 127) : (ck_tl S k tm sp).2 j = S.2 j := by
  have e : va_up S.2 127 (ck_cp (S.2 127) (S.2 126) k) j = S.2 j := va_upn h
  unfold ck_tl
  dsimp only
  split
  · exact e
  · split
    · rfl
    · split
      · split
        · exact e
        · rfl
      · exact e
theorem ck_trf_fr {rec : ck_T → Int32 → Nat → Int32 → Int32 → Int32 → Int32 → ck_T} (h : ∀ S set k x y tm sp, (∀ j, j ≠ 61 ∧ j ≠ 62 ∧ j ≠ 63 → (rec S set k x y tm sp).1 j = S.1 j) ∧ (∀ j, j ≠ 126 ∧ j ≠ 127 → (rec S set k x y tm sp).2 j = S.2 j)) (S : ck_T) (set : Int32) (k : Nat) (x y tm sp : Int32) :
    ∀ c, (∀ j, j ≠ 61 ∧ j ≠ 62 ∧ j ≠ 63 → (ck_fold (ck_trF rec set k x y tm sp) c S).1 j = S.1 j) ∧ (∀ j, j ≠ 126 ∧ j ≠ 127 → (ck_fold (ck_trF rec set k x y tm sp) c S).2 j = S.2 j)
  | 0 => ⟨fun _ _ => rfl, fun _ _ => rfl⟩
  | c + 1 => by
    have ih := ck_trf_fr h S set k x y tm sp c
    rw [ck_fold_s]
    generalize ck_fold (ck_trF rec set k x y tm sp) c S = T at ih
    unfold ck_trF
    split
    · exact ih
    · exact ⟨fun j hj => ((h _ _ _ _ _ _ _).1 j hj).trans (ih.1 j hj), fun j hj => ((h _ _ _ _ _ _ _).2 j hj).trans ((va_upn hj.1).trans (ih.2 j hj))⟩
theorem ck_try_fr {cl : Nat} : ∀ n (S : ck_T) (set : Int32) (k : Nat) (x y tm sp : Int32), (∀ j, j ≠ 61 ∧ j ≠ 62 ∧ j ≠ 63 → (ck_try cl n S set k x y tm sp).1 j = S.1 j) ∧ (∀ j, j ≠ 126 ∧ j ≠ 127 → (ck_try cl n S set k x y tm sp).2 j = S.2 j)
  | 0, S, set, k, x, y, tm, sp => ⟨fun j h => ck_tl_M h, fun j h => ck_tl_A h.2⟩
  | n + 1, S, set, k, x, y, tm, sp => by
    rw [ck_try]
    split
    · exact ⟨fun j h => ck_tl_M h, fun j h => ck_tl_A h.2⟩
    · exact ck_trf_fr (fun S set k x y tm sp => ck_try_fr n S set k x y tm sp) S set k x y tm sp cl
/-- how many of the first eight bits are set -/
def ck_pc (s : Nat) : Nat := s % 2 + s / 2 % 2 + s / 4 % 2 + s / 8 % 2 + s / 16 % 2 + s / 32 % 2 + s / 64 % 2 + s / 128 % 2
theorem ck_pc_0 : ∀ s, s < 256 → ck_pc s = 0 → s = 0 := by decide +kernel
theorem ck_bt : ∀ s, s < 256 → ∀ c, c < 8 → (nI s >>> (nI c &&& 31)) &&& 1 = nI (s / 2 ^ c % 2) := by decide +kernel
theorem ck_bx : ∀ s, s < 256 → ∀ c, c < 8 → s / 2 ^ c % 2 = 1 → nI s &&& ((1 <<< (nI c &&& 31)) ^^^ (-1)) = nI (s - 2 ^ c) ∧ ck_pc (s - 2 ^ c) + 1 = ck_pc s ∧ 2 ^ c ≤ s := by decide +kernel

def bX11_tryRound_0 : List kx_O := [(.iload_n 1, 1, 0, 0, .null), (.ifCond .ne 85, 86, 0, 0, .null)]
theorem kX11_tryRound_0 : kx_oks kxL_X11 false cX11_tryRound 0 bX11_tryRound_0 = true := by decide +kernel
def bX11_tryRound_4 : List kx_O := [(.aload_n 0, 0, 0, 0, .null), (.getfield 488, 11, 63, 0, .null), (.ifCond .le 31, 39, 0, 0, .null)]
theorem kX11_tryRound_4 : kx_oks kxL_X11 false cX11_tryRound 4 bX11_tryRound_4 = true := by decide +kernel
def bX11_tryRound_11 : List kx_O := [(.iload 6, 6, 0, 0, .null), (.aload_n 0, 0, 0, 0, .null), (.getfield 491, 11, 61, 0, .null), (.if_icmp .gt 21, 38, 0, 0, .null)]
theorem kX11_tryRound_11 : kx_oks kxL_X11 false cX11_tryRound 11 bX11_tryRound_11 = true := by decide +kernel
def bX11_tryRound_20 : List kx_O := [(.iload 6, 6, 0, 0, .null), (.aload_n 0, 0, 0, 0, .null), (.getfield 491, 11, 61, 0, .null), (.if_icmp .ne 13, 39, 0, 0, .null)]
theorem kX11_tryRound_20 : kx_oks kxL_X11 false cX11_tryRound 20 bX11_tryRound_20 = true := by decide +kernel
def bX11_tryRound_29 : List kx_O := [(.iload 5, 5, 0, 0, .null), (.aload_n 0, 0, 0, 0, .null), (.getfield 494, 11, 62, 0, .null), (.if_icmp .lt 4, 39, 0, 0, .null)]
theorem kX11_tryRound_29 : kx_oks kxL_X11 false cX11_tryRound 29 bX11_tryRound_29 = true := by decide +kernel
def bX11_tryRound_38 : List kx_O := [(.return_, 0, 0, 0, .null)]
theorem kX11_tryRound_38 : kx_oks kxL_X11 false cX11_tryRound 38 bX11_tryRound_38 = true := by decide +kernel
def bX11_tryRound_39 : List kx_O := [(.aload_n 0, 0, 0, 0, .null), (.iload_n 2, 2, 0, 0, .null), (.putfield 488, 11, 63, 0, .null), (.aload_n 0, 0, 0, 0, .null), (.iload 6, 6, 0, 0, .null), (.putfield 491, 11, 61, 0, .null), (.aload_n 0, 0, 0, 0, .null), (.iload 5, 5, 0, 0, .null), (.putfield 494, 11, 62, 0, .null), (.iconst 0, 0, 0, 0, .int 0), (.istore 7, 7, 0, 0, .null)]
theorem kX11_tryRound_39 : kx_oks kxL_X11 false cX11_tryRound 39 bX11_tryRound_39 = true := by decide +kernel
def bX11_tryRound_59 : List kx_O := [(.iload 7, 7, 0, 0, .null), (.iload_n 2, 2, 0, 0, .null), (.if_icmp .ge 23, 85, 0, 0, .null)]
theorem kX11_tryRound_59 : kx_oks kxL_X11 false cX11_tryRound 59 bX11_tryRound_59 = true := by decide +kernel
def bX11_tryRound_65 : List kx_O := [(.aload_n 0, 0, 0, 0, .null), (.getfield 118, 11, 65, 0, .null), (.iload 7, 7, 0, 0, .null), (.aload_n 0, 0, 0, 0, .null), (.getfield 115, 11, 64, 0, .null), (.iload 7, 7, 0, 0, .null), (.iaload, 0, 0, 0, .null), (.iastore, 0, 0, 0, .null), (.iinc 7 1, 7, 0, 0, .int 1), (.goto (-23), 59, 0, 0, .null)]
theorem kX11_tryRound_65 : kx_oks kxL_X11 false cX11_tryRound 65 bX11_tryRound_65 = true := by decide +kernel
def bX11_tryRound_85 : List kx_O := [(.return_, 0, 0, 0, .null)]
theorem kX11_tryRound_85 : kx_oks kxL_X11 false cX11_tryRound 85 bX11_tryRound_85 = true := by decide +kernel
def bX11_tryRound_86 : List kx_O := [(.iconst 0, 0, 0, 0, .int 0), (.istore 7, 7, 0, 0, .null)]
theorem kX11_tryRound_86 : kx_oks kxL_X11 false cX11_tryRound 86 bX11_tryRound_86 = true := by decide +kernel
def bX11_tryRound_89 : List kx_O := [(.iload 7, 7, 0, 0, .null), (.aload_n 0, 0, 0, 0, .null), (.getfield 337, 11, 21, 0, .null), (.if_icmp .ge 155, 250, 0, 0, .null)]
theorem kX11_tryRound_89 : kx_oks kxL_X11 false cX11_tryRound 89 bX11_tryRound_89 = true := by decide +kernel
def bX11_tryRound_98 : List kx_O := [(.iload_n 1, 1, 0, 0, .null), (.iload 7, 7, 0, 0, .null), (.ishr, 0, 0, 0, .null), (.iconst 1, 0, 0, 0, .int 1), (.iand, 0, 0, 0, .null), (.ifCond .ne 6, 110, 0, 0, .null)]
theorem kX11_tryRound_98 : kx_oks kxL_X11 false cX11_tryRound 98 bX11_tryRound_98 = true := by decide +kernel
def bX11_tryRound_107 : List kx_O := [(.goto 137, 244, 0, 0, .null)]
theorem kX11_tryRound_107 : kx_oks kxL_X11 false cX11_tryRound 107 bX11_tryRound_107 = true := by decide +kernel
def bX11_tryRound_110 : List kx_O := [(.iload 5, 5, 0, 0, .null), (.iload_n 3, 3, 0, 0, .null), (.iload 4, 4, 0, 0, .null), (.aload_n 0, 0, 0, 0, .null), (.getfield 35, 11, 23, 0, .null), (.iload 7, 7, 0, 0, .null), (.iaload, 0, 0, 0, .null), (.aload_n 0, 0, 0, 0, .null), (.getfield 38, 11, 24, 0, .null), (.iload 7, 7, 0, 0, .null), (.iaload, 0, 0, 0, .null)]
theorem kX11_tryRound_110 : kx_oks kxL_X11 false cX11_tryRound 110 bX11_tryRound_110 = true := by decide +kernel
def bX11_tryRound_132 : List kx_O := [(.iadd, 0, 0, 0, .null), (.istore 8, 8, 0, 0, .null), (.aload_n 0, 0, 0, 0, .null), (.getfield 59, 11, 31, 0, .null), (.iload 7, 7, 0, 0, .null), (.iaload, 0, 0, 0, .null), (.iload 8, 8, 0, 0, .null), (.if_icmp .le 16, 160, 0, 0, .null)]
theorem kX11_tryRound_132 : kx_oks kxL_X11 false cX11_tryRound 132 bX11_tryRound_132 = true := by decide +kernel
def bX11_tryRound_147 : List kx_O := [(.aload_n 0, 0, 0, 0, .null), (.getfield 59, 11, 31, 0, .null), (.iload 7, 7, 0, 0, .null), (.iaload, 0, 0, 0, .null), (.iload 8, 8, 0, 0, .null), (.isub, 0, 0, 0, .null), (.goto 4, 161, 0, 0, .null)]
theorem kX11_tryRound_147 : kx_oks kxL_X11 false cX11_tryRound 147 bX11_tryRound_147 = true := by decide +kernel
def bX11_tryRound_160 : List kx_O := [(.iconst 0, 0, 0, 0, .int 0)]
theorem kX11_tryRound_160 : kx_oks kxL_X11 false cX11_tryRound 160 bX11_tryRound_160 = true := by decide +kernel
def bX11_tryRound_161 : List kx_O := [(.istore 9, 9, 0, 0, .null), (.sipush 1440, 0, 0, 0, .int 1440), (.aload_n 0, 0, 0, 0, .null), (.iload 7, 7, 0, 0, .null), (.iconst 0, 0, 0, 0, .int 0)]
theorem kX11_tryRound_161 : kx_oks kxL_X11 false cX11_tryRound 161 bX11_tryRound_161 = true := by decide +kernel
def bX11_tryRound_173 : List kx_O := [(.imul, 0, 0, 0, .null), (.iload 9, 9, 0, 0, .null), (.isub, 0, 0, 0, .null), (.istore 10, 10, 0, 0, .null), (.aload_n 0, 0, 0, 0, .null), (.getfield 115, 11, 64, 0, .null), (.iload_n 2, 2, 0, 0, .null), (.iload 7, 7, 0, 0, .null), (.iastore, 0, 0, 0, .null), (.aload_n 0, 0, 0, 0, .null), (.iload_n 1, 1, 0, 0, .null), (.iconst 1, 0, 0, 0, .int 1), (.iload 7, 7, 0, 0, .null), (.ishl, 0, 0, 0, .null), (.iconst (-1), 0, 0, 0, .int (-1)), (.ixor, 0, 0, 0, .null), (.iand, 0, 0, 0, .null), (.iload_n 2, 2, 0, 0, .null), (.iconst 1, 0, 0, 0, .int 1), (.iadd, 0, 0, 0, .null), (.aload_n 0, 0, 0, 0, .null), (.getfield 35, 11, 23, 0, .null), (.iload 7, 7, 0, 0, .null), (.iaload, 0, 0, 0, .null), (.aload_n 0, 0, 0, 0, .null), (.getfield 38, 11, 24, 0, .null), (.iload 7, 7, 0, 0, .null), (.iaload, 0, 0, 0, .null), (.iload 8, 8, 0, 0, .null), (.iload 10, 10, 0, 0, .null), (.sipush 1440, 0, 0, 0, .int 1440), (.iadd, 0, 0, 0, .null), (.iconst 1, 0, 0, 0, .int 1), (.isub, 0, 0, 0, .null), (.sipush 1440, 0, 0, 0, .int 1440), (.idiv, 0, 0, 0, .null), (.iadd, 0, 0, 0, .null), (.iload 6, 6, 0, 0, .null), (.iload 9, 9, 0, 0, .null), (.ifCond .ne 7, 239, 0, 0, .null)]
theorem kX11_tryRound_173 : kx_oks kxL_X11 false cX11_tryRound 173 bX11_tryRound_173 = true := by decide +kernel
def bX11_tryRound_235 : List kx_O := [(.iconst 1, 0, 0, 0, .int 1), (.goto 4, 240, 0, 0, .null)]
theorem kX11_tryRound_235 : kx_oks kxL_X11 false cX11_tryRound 235 bX11_tryRound_235 = true := by decide +kernel
def bX11_tryRound_239 : List kx_O := [(.iconst 0, 0, 0, 0, .int 0)]
theorem kX11_tryRound_239 : kx_oks kxL_X11 false cX11_tryRound 239 bX11_tryRound_239 = true := by decide +kernel
def bX11_tryRound_240 : List kx_O := [(.iadd, 0, 0, 0, .null)]
theorem kX11_tryRound_240 : kx_oks kxL_X11 false cX11_tryRound 240 bX11_tryRound_240 = true := by decide +kernel
def bX11_tryRound_244 : List kx_O := [(.iinc 7 1, 7, 0, 0, .int 1), (.goto (-158), 89, 0, 0, .null)]
theorem kX11_tryRound_244 : kx_oks kxL_X11 false cX11_tryRound 244 bX11_tryRound_244 = true := by decide +kernel
def bX11_tryRound_250 : List kx_O := [(.return_, 0, 0, 0, .null)]
theorem kX11_tryRound_250 : kx_oks kxL_X11 false cX11_tryRound 250 bX11_tryRound_250 = true := by decide +kernel
theorem dX11_tryRound_129 : decode cX11_tryRound 129 = .ok (.invokestatic 479, 3) := by decide +kernel
theorem dX11_tryRound_170 : decode cX11_tryRound 170 = .ok (.invokevirtual 365, 3) := by decide +kernel
theorem dX11_tryRound_241 : decode cX11_tryRound 241 = .ok (.invokevirtual 497, 3) := by decide +kernel
set_option maxRecDepth 100000 in
set_option maxHeartbeats 4000000 in
theorem ct_X11_tryRound_0 (l : Launch) (G : kx_G) {M : Nat → Int32} {A : Nat → Nat → Int32} {L : Nat → Nat → Int64} {R : kx_P} {sz : Nat} {d k : Nat} (hk : k ≤ 6) {x y tm sp : Int32}  : kx_M l G sX11_tryRound (d + 3) 0 0 [.ref 93, .int (0), .int (nI k), .int (x), .int (y), .int (tm), .int (sp)] (mW M A L R) sz none (mW (ck_tl (M, A) k tm sp).1 (ck_tl (M, A) k tm sp).2 L R) sz := by
  refine kx_mk kx_tab kxLok_X11 (ini := false) [some (.ref 93), some (.int (0)), some (.int (nI k)), some (.int (x)), some (.int (y)), some (.int (tm)), some (.int (sp)), none, none, none, none] ⟨by decide, rfl, by decide, by omega⟩ (rfl) rfl rfl (fun g hB hC => ?_)
  have j85 : ∀ M9 A9 x7, (M9, A9) = ck_tl (M, A) k tm sp → g 85 [some (.ref 93), some (.int 0), some (.int (nI k)), some (.int x), some (.int y), some (.int tm), some (.int sp), x7, none, none, none] [] (mW M9 A9 L R) sz 0 0 := by
    intro M9 A9 x7 hE
    refine hB bX11_tryRound_85 _ _ _ _ _ _ _ kX11_tryRound_85 ?_
    dsimp only [bX11_tryRound_85, kx_wp, kx_step, kx_lI, kx_lL, kx_lA, kx_gl, kx_pI, kx_pL, kx_pR, kx_pA, kx_pV, kx_s1, kx_s2, kx_sl, kx_pre, kx_c2, kx_pl, kx_cmp, kx_oF, kx_eqN, kx_nil, kx_c1, kx_ft, kx_aI, kx_aL, kx_aR, kx_ln, Nat.reduceAdd, Option.toList, List.cons_append, List.nil_append, mW_o, mf_63, mf_61, mf_62, mf_65, m_127, mf_64, m_126, mf_21, mf_23, m_100, mf_24, m_101, mf_31, m_108]
    repeat (simp only [mu_63, mW_so, mu_61, mu_62, ms_127, ms_126, ms_100, ms_101, ms_108, nI_1, va_us, va_upn, ne_eq, Nat.reduceEqDiff, not_false_eq_true, va_upup, ck_cp_s]; try dsimp only [kx_wp, kx_step, kx_lI, kx_lL, kx_lA, kx_gl, kx_pI, kx_pL, kx_pR, kx_pA, kx_pV, kx_s1, kx_s2, kx_sl, kx_pre, kx_c2, kx_pl, kx_cmp, kx_oF, kx_eqN, kx_nil, kx_c1, kx_ft, kx_aI, kx_aL, kx_aR, kx_ln, Nat.reduceAdd, Option.toList, List.cons_append, List.nil_append, mW_o, mf_63, mf_61, mf_62, mf_65, m_127, mf_64, m_126, mf_21, mf_23, m_100, mf_24, m_101, mf_31, m_108])
    all_goals (repeat' apply And.intro)
    all_goals ((try clear hB hC); first | exact True.intro | with_reducible rfl | (rw [← hE]))
  have loop59 : ∀ (n9 i : Nat), i + n9 = k → (upd (upd (upd M 63 (nI k)) 61 sp) 62 tm, va_up A 127 (ck_cp (A 127) (A 126) k)) = ck_tl (M, A) k tm sp → g 59 [some (.ref 93), some (.int 0), some (.int (nI k)), some (.int x), some (.int y), some (.int tm), some (.int sp), some (.int (nI i)), none, none, none] [] (mW (upd (upd (upd M 63 (nI k)) 61 sp) 62 tm) (va_up A 127 (ck_cp (A 127) (A 126) i)) L R) sz 0 0 := by
    intro n9
    induction n9 with
    | zero =>
      intro i hi hE
      obtain rfl : k = i := by omega
      refine hB bX11_tryRound_59 _ _ _ _ _ _ _ kX11_tryRound_59 ?_
      dsimp only [bX11_tryRound_59, kx_wp, kx_step, kx_lI, kx_lL, kx_lA, kx_gl, kx_pI, kx_pL, kx_pR, kx_pA, kx_pV, kx_s1, kx_s2, kx_sl, kx_pre, kx_c2, kx_pl, kx_cmp, kx_oF, kx_eqN, kx_nil, kx_c1, kx_ft, kx_aI, kx_aL, kx_aR, kx_ln, Nat.reduceAdd, Option.toList, List.cons_append, List.nil_append, mW_o, mf_63, mf_61, mf_62, mf_65, m_127, mf_64, m_126, mf_21, mf_23, m_100, mf_24, m_101, mf_31, m_108]
      repeat (simp only [mu_63, mW_so, mu_61, mu_62, ms_127, ms_126, ms_100, ms_101, ms_108, nI_1, va_us, va_upn, ne_eq, Nat.reduceEqDiff, not_false_eq_true, va_upup, ck_cp_s]; try dsimp only [kx_wp, kx_step, kx_lI, kx_lL, kx_lA, kx_gl, kx_pI, kx_pL, kx_pR, kx_pA, kx_pV, kx_s1, kx_s2, kx_sl, kx_pre, kx_c2, kx_pl, kx_cmp, kx_oF, kx_eqN, kx_nil, kx_c1, kx_ft, kx_aI, kx_aL, kx_aR, kx_ln, Nat.reduceAdd, Option.toList, List.cons_append, List.nil_append, mW_o, mf_63, mf_61, mf_62, mf_65, m_127, mf_64, m_126, mf_21, mf_23, m_100, mf_24, m_101, mf_31, m_108])
      repeat' apply And.intro
      all_goals try (first | with_reducible assumption | (with_reducible refine ck_nzI ?_; simp; done) | (with_reducible refine ck_nzL ?_; simp; done) | (with_reducible refine vp_in_nI ?_ ?_ <;> first | omega | decide) | (with_reducible refine Nat.le_of_ble_eq_true ?_; rfl) | omega)
      · intro zc62
        with_reducible first | have ze62 := Int32.not_lt.mpr zc62 | have ze62 := zc62
        all_goals exact j85 _ _ _ hE
      · intro zc62
        first | exact absurd rfl zc62 | exact absurd zc62 (by decide) | exact absurd (by decide) zc62 | (exfalso; first | exact absurd zc62 (by first | (simp only [nI_leI (show k < 2 ^ 31 by omega) (show k < 2 ^ 31 by omega)]; omega) | (simp only [nI_leI (show k < 2 ^ 31 by omega) (show k < 2 ^ 31 by omega), Decidable.not_not]; omega)) | exact absurd zc1 (by decide) | exact zc1 rfl) | (exfalso; simp_all; done)
    | succ n9 ih =>
      intro i hi hE
      refine hB bX11_tryRound_59 _ _ _ _ _ _ _ kX11_tryRound_59 ?_
      dsimp only [bX11_tryRound_59, kx_wp, kx_step, kx_lI, kx_lL, kx_lA, kx_gl, kx_pI, kx_pL, kx_pR, kx_pA, kx_pV, kx_s1, kx_s2, kx_sl, kx_pre, kx_c2, kx_pl, kx_cmp, kx_oF, kx_eqN, kx_nil, kx_c1, kx_ft, kx_aI, kx_aL, kx_aR, kx_ln, Nat.reduceAdd, Option.toList, List.cons_append, List.nil_append, mW_o, mf_63, mf_61, mf_62, mf_65, m_127, mf_64, m_126, mf_21, mf_23, m_100, mf_24, m_101, mf_31, m_108]
      repeat (simp only [mu_63, mW_so, mu_61, mu_62, ms_127, ms_126, ms_100, ms_101, ms_108, nI_1, va_us, va_upn, ne_eq, Nat.reduceEqDiff, not_false_eq_true, va_upup, ck_cp_s, nI_clamp (show i < 2 ^ 31 by omega)]; try dsimp only [kx_wp, kx_step, kx_lI, kx_lL, kx_lA, kx_gl, kx_pI, kx_pL, kx_pR, kx_pA, kx_pV, kx_s1, kx_s2, kx_sl, kx_pre, kx_c2, kx_pl, kx_cmp, kx_oF, kx_eqN, kx_nil, kx_c1, kx_ft, kx_aI, kx_aL, kx_aR, kx_ln, Nat.reduceAdd, Option.toList, List.cons_append, List.nil_append, mW_o, mf_63, mf_61, mf_62, mf_65, m_127, mf_64, m_126, mf_21, mf_23, m_100, mf_24, m_101, mf_31, m_108])
      repeat' apply And.intro
      all_goals try (first | with_reducible assumption | (with_reducible refine ck_nzI ?_; simp; done) | (with_reducible refine ck_nzL ?_; simp; done) | (with_reducible refine vp_in_nI ?_ ?_ <;> first | omega | decide) | (with_reducible refine Nat.le_of_ble_eq_true ?_; rfl) | omega)
      · intro zc62
        first | exact absurd rfl zc62 | exact absurd zc62 (by decide) | exact absurd (by decide) zc62 | (exfalso; first | exact absurd zc62 (by first | (simp only [nI_leI (show k < 2 ^ 31 by omega) (show i < 2 ^ 31 by omega)]; omega) | (simp only [nI_leI (show k < 2 ^ 31 by omega) (show i < 2 ^ 31 by omega), Decidable.not_not]; omega)) | exact absurd zc1 (by decide) | exact zc1 rfl) | (exfalso; simp_all; done)
      · intro zc62
        with_reducible first | have ze62 := Int32.not_le.mp zc62 | have ze62 := zc62
        refine hB bX11_tryRound_65 _ _ _ _ _ _ _ kX11_tryRound_65 ?_
        dsimp only [bX11_tryRound_65, kx_wp, kx_step, kx_lI, kx_lL, kx_lA, kx_gl, kx_pI, kx_pL, kx_pR, kx_pA, kx_pV, kx_s1, kx_s2, kx_sl, kx_pre, kx_c2, kx_pl, kx_cmp, kx_oF, kx_eqN, kx_nil, kx_c1, kx_ft, kx_aI, kx_aL, kx_aR, kx_ln, Nat.reduceAdd, Option.toList, List.cons_append, List.nil_append, mW_o, mf_63, mf_61, mf_62, mf_65, m_127, mf_64, m_126, mf_21, mf_23, m_100, mf_24, m_101, mf_31, m_108]
        repeat (simp only [mu_63, mW_so, mu_61, mu_62, ms_127, ms_126, ms_100, ms_101, ms_108, nI_1, va_us, va_upn, ne_eq, Nat.reduceEqDiff, not_false_eq_true, va_upup, ck_cp_s, nI_clamp (show i < 2 ^ 31 by omega)]; try dsimp only [kx_wp, kx_step, kx_lI, kx_lL, kx_lA, kx_gl, kx_pI, kx_pL, kx_pR, kx_pA, kx_pV, kx_s1, kx_s2, kx_sl, kx_pre, kx_c2, kx_pl, kx_cmp, kx_oF, kx_eqN, kx_nil, kx_c1, kx_ft, kx_aI, kx_aL, kx_aR, kx_ln, Nat.reduceAdd, Option.toList, List.cons_append, List.nil_append, mW_o, mf_63, mf_61, mf_62, mf_65, m_127, mf_64, m_126, mf_21, mf_23, m_100, mf_24, m_101, mf_31, m_108])
        repeat' apply And.intro
        all_goals try (first | with_reducible assumption | (with_reducible refine ck_nzI ?_; simp; done) | (with_reducible refine ck_nzL ?_; simp; done) | (with_reducible refine vp_in_nI ?_ ?_ <;> first | omega | decide) | (with_reducible refine Nat.le_of_ble_eq_true ?_; rfl) | omega)
        all_goals exact ih (i + 1) (by omega) hE
  refine hB bX11_tryRound_0 _ _ _ _ _ _ _ kX11_tryRound_0 ?_
  dsimp only [bX11_tryRound_0, kx_wp, kx_step, kx_lI, kx_lL, kx_lA, kx_gl, kx_pI, kx_pL, kx_pR, kx_pA, kx_pV, kx_s1, kx_s2, kx_sl, kx_pre, kx_c2, kx_pl, kx_cmp, kx_oF, kx_eqN, kx_nil, kx_c1, kx_ft, kx_aI, kx_aL, kx_aR, kx_ln, Nat.reduceAdd, Option.toList, List.cons_append, List.nil_append, mW_o, mf_63, mf_61, mf_62, mf_65, m_127, mf_64, m_126, mf_21, mf_23, m_100, mf_24, m_101, mf_31, m_108]
  repeat (simp only [mu_63, mW_so, mu_61, mu_62, ms_127, ms_126, ms_100, ms_101, ms_108, nI_1, va_us, va_upn, ne_eq, Nat.reduceEqDiff, not_false_eq_true, va_upup, ck_cp_s]; try dsimp only [kx_wp, kx_step, kx_lI, kx_lL, kx_lA, kx_gl, kx_pI, kx_pL, kx_pR, kx_pA, kx_pV, kx_s1, kx_s2, kx_sl, kx_pre, kx_c2, kx_pl, kx_cmp, kx_oF, kx_eqN, kx_nil, kx_c1, kx_ft, kx_aI, kx_aL, kx_aR, kx_ln, Nat.reduceAdd, Option.toList, List.cons_append, List.nil_append, mW_o, mf_63, mf_61, mf_62, mf_65, m_127, mf_64, m_126, mf_21, mf_23, m_100, mf_24, m_101, mf_31, m_108])
  repeat' apply And.intro
  all_goals try (first | with_reducible assumption | (with_reducible refine ck_nzI ?_; simp; done) | (with_reducible refine ck_nzL ?_; simp; done) | (with_reducible refine vp_in_nI ?_ ?_ <;> first | omega | decide) | (with_reducible refine Nat.le_of_ble_eq_true ?_; rfl) | omega)
  · intro zc1
    first | exact absurd rfl zc1 | exact absurd zc1 (by decide) | exact absurd (by decide) zc1 | (exfalso; first | exact absurd zc62 (by first | (simp only [nI_leI (show k < 2 ^ 31 by omega) (show i < 2 ^ 31 by omega)]; omega) | (simp only [nI_leI (show k < 2 ^ 31 by omega) (show i < 2 ^ 31 by omega), Decidable.not_not]; omega)) | exact absurd zc1 (by decide) | exact zc1 rfl) | (exfalso; simp_all; done)
  · intro zc1
    with_reducible first | have ze1 := Decidable.not_not.mp zc1 | have ze1 := zc1
    refine hB bX11_tryRound_4 _ _ _ _ _ _ _ kX11_tryRound_4 ?_
    dsimp only [bX11_tryRound_4, kx_wp, kx_step, kx_lI, kx_lL, kx_lA, kx_gl, kx_pI, kx_pL, kx_pR, kx_pA, kx_pV, kx_s1, kx_s2, kx_sl, kx_pre, kx_c2, kx_pl, kx_cmp, kx_oF, kx_eqN, kx_nil, kx_c1, kx_ft, kx_aI, kx_aL, kx_aR, kx_ln, Nat.reduceAdd, Option.toList, List.cons_append, List.nil_append, mW_o, mf_63, mf_61, mf_62, mf_65, m_127, mf_64, m_126, mf_21, mf_23, m_100, mf_24, m_101, mf_31, m_108]
    repeat (simp only [mu_63, mW_so, mu_61, mu_62, ms_127, ms_126, ms_100, ms_101, ms_108, nI_1, va_us, va_upn, ne_eq, Nat.reduceEqDiff, not_false_eq_true, va_upup, ck_cp_s]; try dsimp only [kx_wp, kx_step, kx_lI, kx_lL, kx_lA, kx_gl, kx_pI, kx_pL, kx_pR, kx_pA, kx_pV, kx_s1, kx_s2, kx_sl, kx_pre, kx_c2, kx_pl, kx_cmp, kx_oF, kx_eqN, kx_nil, kx_c1, kx_ft, kx_aI, kx_aL, kx_aR, kx_ln, Nat.reduceAdd, Option.toList, List.cons_append, List.nil_append, mW_o, mf_63, mf_61, mf_62, mf_65, m_127, mf_64, m_126, mf_21, mf_23, m_100, mf_24, m_101, mf_31, m_108])
    repeat' apply And.intro
    all_goals try (first | with_reducible assumption | (with_reducible refine ck_nzI ?_; simp; done) | (with_reducible refine ck_nzL ?_; simp; done) | (with_reducible refine vp_in_nI ?_ ?_ <;> first | omega | decide) | (with_reducible refine Nat.le_of_ble_eq_true ?_; rfl) | omega)
    · intro zc8
      with_reducible first | have ze8 := Int32.not_lt.mpr zc8 | have ze8 := zc8
      refine hB bX11_tryRound_39 _ _ _ _ _ _ _ kX11_tryRound_39 ?_
      dsimp only [bX11_tryRound_39, kx_wp, kx_step, kx_lI, kx_lL, kx_lA, kx_gl, kx_pI, kx_pL, kx_pR, kx_pA, kx_pV, kx_s1, kx_s2, kx_sl, kx_pre, kx_c2, kx_pl, kx_cmp, kx_oF, kx_eqN, kx_nil, kx_c1, kx_ft, kx_aI, kx_aL, kx_aR, kx_ln, Nat.reduceAdd, Option.toList, List.cons_append, List.nil_append, mW_o, mf_63, mf_61, mf_62, mf_65, m_127, mf_64, m_126, mf_21, mf_23, m_100, mf_24, m_101, mf_31, m_108]
      repeat (simp only [mu_63, mW_so, mu_61, mu_62, ms_127, ms_126, ms_100, ms_101, ms_108, nI_1, va_us, va_upn, ne_eq, Nat.reduceEqDiff, not_false_eq_true, va_upup, ck_cp_s]; try dsimp only [kx_wp, kx_step, kx_lI, kx_lL, kx_lA, kx_gl, kx_pI, kx_pL, kx_pR, kx_pA, kx_pV, kx_s1, kx_s2, kx_sl, kx_pre, kx_c2, kx_pl, kx_cmp, kx_oF, kx_eqN, kx_nil, kx_c1, kx_ft, kx_aI, kx_aL, kx_aR, kx_ln, Nat.reduceAdd, Option.toList, List.cons_append, List.nil_append, mW_o, mf_63, mf_61, mf_62, mf_65, m_127, mf_64, m_126, mf_21, mf_23, m_100, mf_24, m_101, mf_31, m_108])
      repeat' apply And.intro
      all_goals try (first | with_reducible assumption | (with_reducible refine ck_nzI ?_; simp; done) | (with_reducible refine ck_nzL ?_; simp; done) | (with_reducible refine vp_in_nI ?_ ?_ <;> first | omega | decide) | (with_reducible refine Nat.le_of_ble_eq_true ?_; rfl) | omega)
      have ze := loop59 k 0 (by omega) (by simp only [ck_tl, eq_true ze1, zc8, ze8, ↓reduceIte])
      rw [ck_cp_0, va_upself] at ze
      exact ze
    · intro zc8
      with_reducible first | have ze8 := Int32.not_le.mp zc8 | have ze8 := zc8
      refine hB bX11_tryRound_11 _ _ _ _ _ _ _ kX11_tryRound_11 ?_
      dsimp only [bX11_tryRound_11, kx_wp, kx_step, kx_lI, kx_lL, kx_lA, kx_gl, kx_pI, kx_pL, kx_pR, kx_pA, kx_pV, kx_s1, kx_s2, kx_sl, kx_pre, kx_c2, kx_pl, kx_cmp, kx_oF, kx_eqN, kx_nil, kx_c1, kx_ft, kx_aI, kx_aL, kx_aR, kx_ln, Nat.reduceAdd, Option.toList, List.cons_append, List.nil_append, mW_o, mf_63, mf_61, mf_62, mf_65, m_127, mf_64, m_126, mf_21, mf_23, m_100, mf_24, m_101, mf_31, m_108]
      repeat (simp only [mu_63, mW_so, mu_61, mu_62, ms_127, ms_126, ms_100, ms_101, ms_108, nI_1, va_us, va_upn, ne_eq, Nat.reduceEqDiff, not_false_eq_true, va_upup, ck_cp_s]; try dsimp only [kx_wp, kx_step, kx_lI, kx_lL, kx_lA, kx_gl, kx_pI, kx_pL, kx_pR, kx_pA, kx_pV, kx_s1, kx_s2, kx_sl, kx_pre, kx_c2, kx_pl, kx_cmp, kx_oF, kx_eqN, kx_nil, kx_c1, kx_ft, kx_aI, kx_aL, kx_aR, kx_ln, Nat.reduceAdd, Option.toList, List.cons_append, List.nil_append, mW_o, mf_63, mf_61, mf_62, mf_65, m_127, mf_64, m_126, mf_21, mf_23, m_100, mf_24, m_101, mf_31, m_108])
      repeat' apply And.intro
      all_goals try (first | with_reducible assumption | (with_reducible refine ck_nzI ?_; simp; done) | (with_reducible refine ck_nzL ?_; simp; done) | (with_reducible refine vp_in_nI ?_ ?_ <;> first | omega | decide) | (with_reducible refine Nat.le_of_ble_eq_true ?_; rfl) | omega)
      · intro zc17
        with_reducible first | have ze17 := Int32.not_le.mpr zc17 | have ze17 := zc17
        refine hB bX11_tryRound_38 _ _ _ _ _ _ _ kX11_tryRound_38 ?_
        dsimp only [bX11_tryRound_38, kx_wp, kx_step, kx_lI, kx_lL, kx_lA, kx_gl, kx_pI, kx_pL, kx_pR, kx_pA, kx_pV, kx_s1, kx_s2, kx_sl, kx_pre, kx_c2, kx_pl, kx_cmp, kx_oF, kx_eqN, kx_nil, kx_c1, kx_ft, kx_aI, kx_aL, kx_aR, kx_ln, Nat.reduceAdd, Option.toList, List.cons_append, List.nil_append, mW_o, mf_63, mf_61, mf_62, mf_65, m_127, mf_64, m_126, mf_21, mf_23, m_100, mf_24, m_101, mf_31, m_108]
        repeat (simp only [mu_63, mW_so, mu_61, mu_62, ms_127, ms_126, ms_100, ms_101, ms_108, nI_1, va_us, va_upn, ne_eq, Nat.reduceEqDiff, not_false_eq_true, va_upup, ck_cp_s]; try dsimp only [kx_wp, kx_step, kx_lI, kx_lL, kx_lA, kx_gl, kx_pI, kx_pL, kx_pR, kx_pA, kx_pV, kx_s1, kx_s2, kx_sl, kx_pre, kx_c2, kx_pl, kx_cmp, kx_oF, kx_eqN, kx_nil, kx_c1, kx_ft, kx_aI, kx_aL, kx_aR, kx_ln, Nat.reduceAdd, Option.toList, List.cons_append, List.nil_append, mW_o, mf_63, mf_61, mf_62, mf_65, m_127, mf_64, m_126, mf_21, mf_23, m_100, mf_24, m_101, mf_31, m_108])
        all_goals (repeat' apply And.intro)
        all_goals ((try clear hB hC); first | exact True.intro | with_reducible rfl | with_reducible assumption | (with_reducible refine vp_in_nI ?_ ?_ <;> first | omega | decide) | exact Nat.le_of_ble_eq_true rfl | (with_reducible refine ck_nzI ?_; simp; done) | (with_reducible refine ck_nzL ?_; simp; done) | (simp only [pk_us, pk_uLs, ck_tl, eq_true ze1, zc8, ze8, zc17, ze17, ↓reduceIte, not_true_eq_false, not_false_eq_true]; done) | (simp only [ck_tl, eq_true ze1, zc8, ze8, zc17, ze17, ↓reduceIte, not_true_eq_false, not_false_eq_true]; with_reducible rfl) | skip)
      · intro zc17
        with_reducible first | have ze17 := Int32.not_lt.mp zc17 | have ze17 := zc17
        refine hB bX11_tryRound_20 _ _ _ _ _ _ _ kX11_tryRound_20 ?_
        dsimp only [bX11_tryRound_20, kx_wp, kx_step, kx_lI, kx_lL, kx_lA, kx_gl, kx_pI, kx_pL, kx_pR, kx_pA, kx_pV, kx_s1, kx_s2, kx_sl, kx_pre, kx_c2, kx_pl, kx_cmp, kx_oF, kx_eqN, kx_nil, kx_c1, kx_ft, kx_aI, kx_aL, kx_aR, kx_ln, Nat.reduceAdd, Option.toList, List.cons_append, List.nil_append, mW_o, mf_63, mf_61, mf_62, mf_65, m_127, mf_64, m_126, mf_21, mf_23, m_100, mf_24, m_101, mf_31, m_108]
        repeat (simp only [mu_63, mW_so, mu_61, mu_62, ms_127, ms_126, ms_100, ms_101, ms_108, nI_1, va_us, va_upn, ne_eq, Nat.reduceEqDiff, not_false_eq_true, va_upup, ck_cp_s]; try dsimp only [kx_wp, kx_step, kx_lI, kx_lL, kx_lA, kx_gl, kx_pI, kx_pL, kx_pR, kx_pA, kx_pV, kx_s1, kx_s2, kx_sl, kx_pre, kx_c2, kx_pl, kx_cmp, kx_oF, kx_eqN, kx_nil, kx_c1, kx_ft, kx_aI, kx_aL, kx_aR, kx_ln, Nat.reduceAdd, Option.toList, List.cons_append, List.nil_append, mW_o, mf_63, mf_61, mf_62, mf_65, m_127, mf_64, m_126, mf_21, mf_23, m_100, mf_24, m_101, mf_31, m_108])
        repeat' apply And.intro
        all_goals try (first | with_reducible assumption | (with_reducible refine ck_nzI ?_; simp; done) | (with_reducible refine ck_nzL ?_; simp; done) | (with_reducible refine vp_in_nI ?_ ?_ <;> first | omega | decide) | (with_reducible refine Nat.le_of_ble_eq_true ?_; rfl) | omega)
        · intro zc26
          have ze26 := zc26
          refine hB bX11_tryRound_39 _ _ _ _ _ _ _ kX11_tryRound_39 ?_
          dsimp only [bX11_tryRound_39, kx_wp, kx_step, kx_lI, kx_lL, kx_lA, kx_gl, kx_pI, kx_pL, kx_pR, kx_pA, kx_pV, kx_s1, kx_s2, kx_sl, kx_pre, kx_c2, kx_pl, kx_cmp, kx_oF, kx_eqN, kx_nil, kx_c1, kx_ft, kx_aI, kx_aL, kx_aR, kx_ln, Nat.reduceAdd, Option.toList, List.cons_append, List.nil_append, mW_o, mf_63, mf_61, mf_62, mf_65, m_127, mf_64, m_126, mf_21, mf_23, m_100, mf_24, m_101, mf_31, m_108]
          repeat (simp only [mu_63, mW_so, mu_61, mu_62, ms_127, ms_126, ms_100, ms_101, ms_108, nI_1, va_us, va_upn, ne_eq, Nat.reduceEqDiff, not_false_eq_true, va_upup, ck_cp_s]; try dsimp only [kx_wp, kx_step, kx_lI, kx_lL, kx_lA, kx_gl, kx_pI, kx_pL, kx_pR, kx_pA, kx_pV, kx_s1, kx_s2, kx_sl, kx_pre, kx_c2, kx_pl, kx_cmp, kx_oF, kx_eqN, kx_nil, kx_c1, kx_ft, kx_aI, kx_aL, kx_aR, kx_ln, Nat.reduceAdd, Option.toList, List.cons_append, List.nil_append, mW_o, mf_63, mf_61, mf_62, mf_65, m_127, mf_64, m_126, mf_21, mf_23, m_100, mf_24, m_101, mf_31, m_108])
          repeat' apply And.intro
          all_goals try (first | with_reducible assumption | (with_reducible refine ck_nzI ?_; simp; done) | (with_reducible refine ck_nzL ?_; simp; done) | (with_reducible refine vp_in_nI ?_ ?_ <;> first | omega | decide) | (with_reducible refine Nat.le_of_ble_eq_true ?_; rfl) | omega)
          have ze := loop59 k 0 (by omega) (by simp only [ck_tl, eq_true ze1, zc8, ze8, zc17, ze17, ze26, ↓reduceIte])
          rw [ck_cp_0, va_upself] at ze
          exact ze
        · intro zc26
          with_reducible first | have ze26 := Decidable.not_not.mp zc26 | have ze26 := zc26
          refine hB bX11_tryRound_29 _ _ _ _ _ _ _ kX11_tryRound_29 ?_
          dsimp only [bX11_tryRound_29, kx_wp, kx_step, kx_lI, kx_lL, kx_lA, kx_gl, kx_pI, kx_pL, kx_pR, kx_pA, kx_pV, kx_s1, kx_s2, kx_sl, kx_pre, kx_c2, kx_pl, kx_cmp, kx_oF, kx_eqN, kx_nil, kx_c1, kx_ft, kx_aI, kx_aL, kx_aR, kx_ln, Nat.reduceAdd, Option.toList, List.cons_append, List.nil_append, mW_o, mf_63, mf_61, mf_62, mf_65, m_127, mf_64, m_126, mf_21, mf_23, m_100, mf_24, m_101, mf_31, m_108]
          repeat (simp only [mu_63, mW_so, mu_61, mu_62, ms_127, ms_126, ms_100, ms_101, ms_108, nI_1, va_us, va_upn, ne_eq, Nat.reduceEqDiff, not_false_eq_true, va_upup, ck_cp_s]; try dsimp only [kx_wp, kx_step, kx_lI, kx_lL, kx_lA, kx_gl, kx_pI, kx_pL, kx_pR, kx_pA, kx_pV, kx_s1, kx_s2, kx_sl, kx_pre, kx_c2, kx_pl, kx_cmp, kx_oF, kx_eqN, kx_nil, kx_c1, kx_ft, kx_aI, kx_aL, kx_aR, kx_ln, Nat.reduceAdd, Option.toList, List.cons_append, List.nil_append, mW_o, mf_63, mf_61, mf_62, mf_65, m_127, mf_64, m_126, mf_21, mf_23, m_100, mf_24, m_101, mf_31, m_108])
          repeat' apply And.intro
          all_goals try (first | with_reducible assumption | (with_reducible refine ck_nzI ?_; simp; done) | (with_reducible refine ck_nzL ?_; simp; done) | (with_reducible refine vp_in_nI ?_ ?_ <;> first | omega | decide) | (with_reducible refine Nat.le_of_ble_eq_true ?_; rfl) | omega)
          · intro zc35
            with_reducible first | have ze35 := Int32.not_le.mpr zc35 | have ze35 := zc35
            refine hB bX11_tryRound_39 _ _ _ _ _ _ _ kX11_tryRound_39 ?_
            dsimp only [bX11_tryRound_39, kx_wp, kx_step, kx_lI, kx_lL, kx_lA, kx_gl, kx_pI, kx_pL, kx_pR, kx_pA, kx_pV, kx_s1, kx_s2, kx_sl, kx_pre, kx_c2, kx_pl, kx_cmp, kx_oF, kx_eqN, kx_nil, kx_c1, kx_ft, kx_aI, kx_aL, kx_aR, kx_ln, Nat.reduceAdd, Option.toList, List.cons_append, List.nil_append, mW_o, mf_63, mf_61, mf_62, mf_65, m_127, mf_64, m_126, mf_21, mf_23, m_100, mf_24, m_101, mf_31, m_108]
            repeat (simp only [mu_63, mW_so, mu_61, mu_62, ms_127, ms_126, ms_100, ms_101, ms_108, nI_1, va_us, va_upn, ne_eq, Nat.reduceEqDiff, not_false_eq_true, va_upup, ck_cp_s]; try dsimp only [kx_wp, kx_step, kx_lI, kx_lL, kx_lA, kx_gl, kx_pI, kx_pL, kx_pR, kx_pA, kx_pV, kx_s1, kx_s2, kx_sl, kx_pre, kx_c2, kx_pl, kx_cmp, kx_oF, kx_eqN, kx_nil, kx_c1, kx_ft, kx_aI, kx_aL, kx_aR, kx_ln, Nat.reduceAdd, Option.toList, List.cons_append, List.nil_append, mW_o, mf_63, mf_61, mf_62, mf_65, m_127, mf_64, m_126, mf_21, mf_23, m_100, mf_24, m_101, mf_31, m_108])
            repeat' apply And.intro
            all_goals try (first | with_reducible assumption | (with_reducible refine ck_nzI ?_; simp; done) | (with_reducible refine ck_nzL ?_; simp; done) | (with_reducible refine vp_in_nI ?_ ?_ <;> first | omega | decide) | (with_reducible refine Nat.le_of_ble_eq_true ?_; rfl) | omega)
            have ze := loop59 k 0 (by omega) (by simp only [ck_tl, eq_true ze1, zc8, ze8, zc17, ze17, eq_true ze26, zc35, ze35, ↓reduceIte])
            rw [ck_cp_0, va_upself] at ze
            exact ze
          · intro zc35
            with_reducible first | have ze35 := Int32.not_lt.mp zc35 | have ze35 := zc35
            refine hB bX11_tryRound_38 _ _ _ _ _ _ _ kX11_tryRound_38 ?_
            dsimp only [bX11_tryRound_38, kx_wp, kx_step, kx_lI, kx_lL, kx_lA, kx_gl, kx_pI, kx_pL, kx_pR, kx_pA, kx_pV, kx_s1, kx_s2, kx_sl, kx_pre, kx_c2, kx_pl, kx_cmp, kx_oF, kx_eqN, kx_nil, kx_c1, kx_ft, kx_aI, kx_aL, kx_aR, kx_ln, Nat.reduceAdd, Option.toList, List.cons_append, List.nil_append, mW_o, mf_63, mf_61, mf_62, mf_65, m_127, mf_64, m_126, mf_21, mf_23, m_100, mf_24, m_101, mf_31, m_108]
            repeat (simp only [mu_63, mW_so, mu_61, mu_62, ms_127, ms_126, ms_100, ms_101, ms_108, nI_1, va_us, va_upn, ne_eq, Nat.reduceEqDiff, not_false_eq_true, va_upup, ck_cp_s]; try dsimp only [kx_wp, kx_step, kx_lI, kx_lL, kx_lA, kx_gl, kx_pI, kx_pL, kx_pR, kx_pA, kx_pV, kx_s1, kx_s2, kx_sl, kx_pre, kx_c2, kx_pl, kx_cmp, kx_oF, kx_eqN, kx_nil, kx_c1, kx_ft, kx_aI, kx_aL, kx_aR, kx_ln, Nat.reduceAdd, Option.toList, List.cons_append, List.nil_append, mW_o, mf_63, mf_61, mf_62, mf_65, m_127, mf_64, m_126, mf_21, mf_23, m_100, mf_24, m_101, mf_31, m_108])
            all_goals (repeat' apply And.intro)
            all_goals ((try clear hB hC); first | exact True.intro | with_reducible rfl | with_reducible assumption | (with_reducible refine vp_in_nI ?_ ?_ <;> first | omega | decide) | exact Nat.le_of_ble_eq_true rfl | (with_reducible refine ck_nzI ?_; simp; done) | (with_reducible refine ck_nzL ?_; simp; done) | (simp only [pk_us, pk_uLs, ck_tl, eq_true ze1, zc8, ze8, zc17, ze17, eq_true ze26, zc35, ze35, ↓reduceIte, not_true_eq_false, not_false_eq_true]; done) | (simp only [ck_tl, eq_true ze1, zc8, ze8, zc17, ze17, eq_true ze26, zc35, ze35, ↓reduceIte, not_true_eq_false, not_false_eq_true]; with_reducible rfl) | skip)


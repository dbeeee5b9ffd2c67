/-! PURE: the round, pruned and not, both ways. -/
/-- what both have found of a round over K clocks -/
def cR_r (K : Nat) (T : cx_T3) (S : ck_T) : Prop :=
  (S.1 63 = 0 ∧ T.1 3 = 1000000000 ∧ T.1 4 = 1000000000) ∨
  ∃ st bt : Nat, st ≤ 10 ∧ bt ≤ 100000 ∧ S.1 63 = nI K ∧ S.1 61 = nI st ∧ S.1 62 = nI bt ∧ T.1 3 = nI st ∧ T.1 4 = nI bt ∧ ∀ j, j < K → T.2.2 j = S.2 127 j
theorem cj_max0 {a b : Nat} (ha : a < 2 ^ 30) (hb : b < 2 ^ 30) : cj_max 0 (nI a - nI b) = nI (a - b) := by
  unfold cj_max
  by_cases h : b ≤ a
  · rw [pk_sub h]
    by_cases h0 : a - b = 0
    · rw [h0]
      split <;> rfl
    · rw [if_neg]
      exact Int32.not_le.mpr ((nI_ltI (a := 0) (b := a - b) (by omega) (by omega)).mpr (by omega))
  · rw [if_pos, show a - b = 0 by omega]
    · rfl
    · rw [Int32.le_iff_toInt_le, pk_sub_toInt (by omega) (by omega), show (0 : Int32).toInt = 0 from rfl]
      omega
theorem ck_max0 {a b : Nat} (ha : a < 2 ^ 30) (hb : b < 2 ^ 30) : (if nI b < nI a then nI a - nI b else 0) = nI (a - b) := by
  by_cases h : b < a
  · rw [if_pos ((nI_ltI (by omega) (by omega)).mpr h), pk_sub (by omega)]
  · rw [if_neg (fun z => h ((nI_ltI (by omega) (by omega)).mp z)), show a - b = 0 by omega]
    rfl
theorem ck_wnd {run has : Nat} (hr : run ≤ 31) (hh : has ≤ 1440 * run) : (1440 * nI run - nI has + 1440 - 1) / 1440 = nI ((1440 * run - has + 1439) / 1440) := by
  rw [show (1440 : Int32) * nI run = nI (1440 * run) from by rw [show (1440 : Int32) = nI 1440 from rfl, pk_mul], pk_sub hh, show (1440 : Int32) = nI 1440 from rfl, nI_add, show (1 : Int32) = nI 1 from rfl, pk_sub (by omega), pk_div (by omega) (by decide) (by decide)]
  congr 1
/-- a better way was found: what comes of a way that is no better changes nothing -/
theorem ck_try_no {A : Nat → Nat → Int32} {cl K st bt : Nat} {lf run : Nat → Nat} (hcl : cl ≤ 8) (hK : 1 ≤ K ∧ K ≤ 6) (hst : st ≤ 10) (hbt : bt ≤ 100000)
    (hpl : ∀ i, i < cl → ∃ u v : Nat, u ≤ 99 ∧ v ≤ 99 ∧ A 100 i = nI u ∧ A 101 i = nI v) (hlr : ∀ i, i < cl → A 108 i = nI (lf i) ∧ A 102 (16 * i + 0) = nI (run i) ∧ lf i ≤ 1440 * run i ∧ run i ≤ 31)
    (hfar : ∀ i x y, i < cl → x ≤ 99 → y ≤ 99 → ∃ f : Nat, f ≤ 198 ∧ ck_wy A (nI x) (nI y) i = nI f) :
    ∀ n (S : ck_T) (s k x y t p : Nat), s < 256 → ck_pc s ≤ n → k + n ≤ 6 → x ≤ 99 → y ≤ 99 → p ≤ k → t ≤ 300 * k → (∀ i, i ≠ 126 → i ≠ 127 → S.2 i = A i) → S.1 63 = nI K → S.1 61 = nI st → S.1 62 = nI bt → (st < p ∨ (st = p ∧ bt ≤ t)) →
      (ck_try cl n S (nI s) k (nI x) (nI y) (nI t) (nI p)).1 = S.1 ∧ (ck_try cl n S (nI s) k (nI x) (nI y) (nI t) (nI p)).2 127 = S.2 127 ∧ ∀ j, j < k → (ck_try cl n S (nI s) k (nI x) (nI y) (nI t) (nI p)).2 126 j = S.2 126 j := by
  have leaf : ∀ (S : ck_T) (k t p : Nat), p ≤ 6 → t ≤ 2000 → S.1 63 = nI K → S.1 61 = nI st → S.1 62 = nI bt → (st < p ∨ (st = p ∧ bt ≤ t)) → ck_tl S k (nI t) (nI p) = S := by
    intro S k t p hp ht h63 h61 h62 hb
    unfold ck_tl
    try dsimp only
    rw [h63, h61, h62, if_neg (fun z => by have := (nI_leI (a := K) (b := 0) (by omega) (by omega)).mp z; omega)]
    rcases hb with hb | ⟨hb, hc⟩
    · rw [if_pos ((nI_ltI (by omega) (by omega)).mpr hb)]
    · rw [if_neg (fun z => by have := (nI_ltI (by omega) (by omega)).mp z; omega), if_pos (by rw [hb]), if_neg (fun z => by have := (nI_ltI (by omega) (by omega)).mp z; omega)]
  intro n
  induction n with
  | zero =>
    intro S s k x y t p hs hpc hk hx hy hp ht hA h63 h61 h62 hb
    rw [ck_try, leaf S k t p (by omega) (by omega) h63 h61 h62 hb]
    exact ⟨rfl, rfl, fun j _ => rfl⟩
  | succ n ih =>
    intro S s k x y t p hs hpc hk hx hy hp ht hA h63 h61 h62 hb
    rw [ck_try]
    by_cases h0 : nI s = 0
    · rw [if_pos h0, leaf S k t p (by omega) (by omega) h63 h61 h62 hb]
      exact ⟨rfl, rfl, fun j _ => rfl⟩
    · rw [if_neg h0]
      have key : ∀ c, c ≤ cl → (ck_fold (ck_trF (ck_try cl n) (nI s) k (nI x) (nI y) (nI t) (nI p)) c S).1 = S.1 ∧ (ck_fold (ck_trF (ck_try cl n) (nI s) k (nI x) (nI y) (nI t) (nI p)) c S).2 127 = S.2 127 ∧ (∀ j, j < k → (ck_fold (ck_trF (ck_try cl n) (nI s) k (nI x) (nI y) (nI t) (nI p)) c S).2 126 j = S.2 126 j) ∧ ∀ i, i ≠ 126 → i ≠ 127 → (ck_fold (ck_trF (ck_try cl n) (nI s) k (nI x) (nI y) (nI t) (nI p)) c S).2 i = A i := by
        intro c
        induction c with
        | zero => intro _; exact ⟨rfl, rfl, fun j _ => rfl, hA⟩
        | succ c ihc =>
          intro hc
          obtain ⟨i1, i2, i3, i4⟩ := ihc (by omega)
          rw [ck_fold_s]
          generalize ck_fold (ck_trF (ck_try cl n) (nI s) k (nI x) (nI y) (nI t) (nI p)) c S = U at i1 i2 i3 i4 ⊢
          unfold ck_trF
          rw [ck_bt s hs c (by omega)]
          by_cases hb1 : s / 2 ^ c % 2 = 1
          · obtain ⟨b1, b2, b3⟩ := ck_bx s hs c (by omega) hb1
            obtain ⟨u, v, hu, hv, eu, ev⟩ := hpl c (by omega)
            obtain ⟨l1, l2, l3, l4⟩ := hlr c (by omega)
            obtain ⟨f, hf, ef⟩ := hfar c x y (by omega) hx hy
            have ewy : ck_wy U.2 (nI x) (nI y) c = nI f := by
              unfold ck_wy
              rw [i4 100 (by decide) (by decide), i4 101 (by decide) (by decide)]
              exact ef
            rw [if_neg (by rw [hb1]; decide), b1, i4 100 (by decide) (by decide), i4 101 (by decide) (by decide), i4 102 (by decide) (by decide), i4 108 (by decide) (by decide), ewy, eu, ev, l1, l2, nI_add, ck_max0 (by omega) (by omega), ck_wnd l4 (by omega), nI_add]
            have ep : ∃ p2, p ≤ p2 ∧ p2 ≤ p + 1 ∧ (nI p + if nI (lf c - (t + f)) = 0 then 1 else 0) = nI p2 := by
              by_cases hz : nI (lf c - (t + f)) = 0
              · rw [if_pos hz]
                exact ⟨p + 1, by omega, by omega, nI_1 p⟩
              · rw [if_neg hz]
                exact ⟨p, by omega, by omega, Int32.add_zero _⟩
            obtain ⟨p2, q1, q2, q3⟩ := ep
            rw [q3]
            have hw : (1440 * run c - (lf c - (t + f)) + 1439) / 1440 ≤ 32 := by omega
            obtain ⟨z1, z2, z3⟩ := ih (U.1, va_up U.2 126 (upd (U.2 126) k (nI c))) (s - 2 ^ c) (k + 1) u v (t + f + (1440 * run c - (lf c - (t + f)) + 1439) / 1440) p2 (Nat.lt_of_le_of_lt (Nat.sub_le _ _) hs) (by omega) (by omega) hu hv (by omega) (by omega)
              (fun i h1 h2 => (va_upn h1).trans (i4 i h1 h2)) (by rw [i1]; exact h63) (by rw [i1]; exact h61) (by rw [i1]; exact h62) (by omega)
            have z4 := fun i h1 h2 => (ck_try_fr (cl := cl) n (U.1, va_up U.2 126 (upd (U.2 126) k (nI c))) (nI (s - 2 ^ c)) (k + 1) (nI u) (nI v) (nI (t + f + (1440 * run c - (lf c - (t + f)) + 1439) / 1440)) (nI p2)).2 i ⟨h1, h2⟩
            refine ⟨z1.trans i1, ?_, fun j hj => ?_, fun i h1 h2 => ?_⟩
            · rw [z2]
              show va_up U.2 126 (upd (U.2 126) k (nI c)) 127 = _
              rw [va_upn (by decide)]
              exact i2
            · rw [z3 j (by omega)]
              show va_up U.2 126 (upd (U.2 126) k (nI c)) 126 j = _
              rw [va_us, pk_un (by omega)]
              exact i3 j hj
            · rw [z4 i h1 h2]; exact (va_upn h1).trans (i4 i h1 h2)
          · rw [if_pos (by rw [show s / 2 ^ c % 2 = 0 by omega]; rfl)]
            exact ⟨i1, i2, i3, i4⟩
      obtain ⟨k1, k2, k3, -⟩ := key cl (Nat.le_refl _)
      exact ⟨k1, k2, k3⟩
/-- a round, both ways -/
theorem cx_go_eq {A CC VV : Nat → Nat → Int32} {cl K : Nat} {lf run : Nat → Nat} (hcl : cl ≤ 8) (hK : 1 ≤ K ∧ K ≤ 6) (hp : cR_p A CC VV cl)
    (hlr : ∀ i, i < cl → CC i 6 = nI (lf i) ∧ A 108 i = nI (lf i) ∧ VV i 0 = nI (run i) ∧ A 102 (16 * i + 0) = nI (run i) ∧ lf i ≤ 1440 * run i ∧ run i ≤ 31)
    (hfar : ∀ i x y, i < cl → x ≤ 99 → y ≤ 99 → ∃ f : Nat, f ≤ 198 ∧ ck_wy A (nI x) (nI y) i = nI f) :
    ∀ n (T : cx_T3) (S : ck_T) (s k x y t p : Nat), s < 256 → ck_pc s ≤ n → k + n ≤ 6 → k + ck_pc s = K → x ≤ 99 → y ≤ 99 → p ≤ k → t ≤ 300 * k → (∀ i, i ≠ 126 → i ≠ 127 → S.2 i = A i) → (∀ j, j < k → T.2.1 j = S.2 126 j) → cR_r K T S →
      cR_r K (cx_go CC VV cl n T k (nI s) (nI x) (nI y) (nI t) (nI p)) (ck_try cl n S (nI s) k (nI x) (nI y) (nI t) (nI p)) ∧ ∀ j, j < k → (cx_go CC VV cl n T k (nI s) (nI x) (nI y) (nI t) (nI p)).2.1 j = (ck_try cl n S (nI s) k (nI x) (nI y) (nI t) (nI p)).2 126 j := by
  -- a way that is no better
  have prune : ∀ n (T : cx_T3) (S : ck_T) (s k x y t p : Nat) (b : cx_T3), s < 256 → ck_pc s ≤ n → k + n ≤ 6 → x ≤ 99 → y ≤ 99 → p ≤ k → t ≤ 300 * k → (∀ i, i ≠ 126 → i ≠ 127 → S.2 i = A i) → (∀ j, j < k → T.2.1 j = S.2 126 j) → cR_r K T S →
      ((S.1 63 = 0 ∨ ∃ st bt : Nat, st ≤ 10 ∧ bt ≤ 100000 ∧ S.1 63 = nI K ∧ S.1 61 = nI st ∧ S.1 62 = nI bt ∧ ¬ st < p ∧ (st = p → t < bt)) ∧ cx_pr T (nI t) (nI p) b = b) ∨
      (cx_pr T (nI t) (nI p) b = T ∧ cR_r K T (ck_try cl n S (nI s) k (nI x) (nI y) (nI t) (nI p)) ∧ ∀ j, j < k → T.2.1 j = (ck_try cl n S (nI s) k (nI x) (nI y) (nI t) (nI p)).2 126 j) := by
    intro n T S s k x y t p b hs hpc hk hx hy hpk ht hA hO hr
    unfold cx_pr
    rcases hr with ⟨r1, r2, r3⟩ | ⟨st, bt, hst, hbt, r1, r2, r3, r4, r5, r6⟩
    · refine Or.inl ⟨Or.inl r1, ?_⟩
      rw [r2, show (1000000000 : Int32) = nI 1000000000 from rfl, if_neg (fun z => by have := (nI_ltI (by omega) (by omega)).mp z; omega), if_neg (fun z => by have := (nI_eq (by omega) (by omega)).mp z; omega)]
    · rw [r4, r5]
      by_cases c : st < p ∨ (st = p ∧ bt ≤ t)
      · right
        obtain ⟨z1, z2, z3⟩ := ck_try_no (A := A) (cl := cl) (K := K) (st := st) (bt := bt) (lf := lf) (run := run) hcl hK hst hbt (fun i hi => (hp i hi).2.2.2) (fun i hi => ⟨(hlr i hi).2.1, (hlr i hi).2.2.2.1, (hlr i hi).2.2.2.2.1, (hlr i hi).2.2.2.2.2⟩) hfar n S s k x y t p hs hpc hk hx hy hpk ht hA r1 r2 r3 c
        refine ⟨?_, Or.inr ⟨st, bt, hst, hbt, by rw [z1]; exact r1, by rw [z1]; exact r2, by rw [z1]; exact r3, r4, r5, fun j hj => by rw [z2]; exact r6 j hj⟩, fun j hj => by rw [z3 j hj]; exact hO j hj⟩
        by_cases c1 : st < p
        · rw [if_pos ((nI_ltI (by omega) (by omega)).mpr c1)]
        · rw [if_neg (fun z => c1 ((nI_ltI (by omega) (by omega)).mp z)), if_pos (by rw [show st = p by omega]), if_neg (fun z => by have := (nI_ltI (by omega) (by omega)).mp z; omega)]
      · left
        refine ⟨Or.inr ⟨st, bt, hst, hbt, r1, r2, r3, by omega, by omega⟩, ?_⟩
        rw [if_neg (fun z => by have := (nI_ltI (by omega) (by omega)).mp z; omega)]
        by_cases c1 : st = p
        · rw [if_pos (by rw [c1]), if_pos ((nI_ltI (by omega) (by omega)).mpr (by omega))]
        · rw [if_neg (fun z => c1 ((nI_eq (by omega) (by omega)).mp z).symm)]
  -- a whole order
  have leaf : ∀ (T : cx_T3) (S : ck_T) (t p : Nat), p ≤ 6 → t ≤ 2000 → (∀ j, j < K → T.2.1 j = S.2 126 j) → (S.1 63 = 0 ∨ ∃ st bt : Nat, st ≤ 10 ∧ bt ≤ 100000 ∧ S.1 63 = nI K ∧ S.1 61 = nI st ∧ S.1 62 = nI bt ∧ ¬ st < p ∧ (st = p → t < bt)) →
      cR_r K (cx_lfv T (nI t) (nI p)) (ck_tl S K (nI t) (nI p)) ∧ ∀ j, j < K → (cx_lfv T (nI t) (nI p)).2.1 j = (ck_tl S K (nI t) (nI p)).2 126 j := by
    intro T S t p hp6 ht hO hb
    have e : ck_tl S K (nI t) (nI p) = (upd (upd (upd S.1 63 (nI K)) 61 (nI p)) 62 (nI t), va_up S.2 127 (ck_cp (S.2 127) (S.2 126) K)) := by
      unfold ck_tl
      try dsimp only
      rcases hb with h | ⟨st, bt, hst, hbt, r1, r2, r3, h1, h2⟩
      · rw [h, if_pos (by decide)]
      · rw [r1, r2, r3, if_neg (fun z => by have := (nI_leI (a := K) (b := 0) (by omega) (by omega)).mp z; omega), if_neg (fun z => h1 ((nI_ltI (by omega) (by omega)).mp z))]
        by_cases c1 : st = p
        · rw [if_pos (by rw [c1]), if_pos ((nI_ltI (by omega) (by omega)).mpr (h2 c1))]
        · rw [if_neg (fun z => c1 ((nI_eq (by omega) (by omega)).mp z).symm)]
    rw [e]
    unfold cx_lfv
    refine ⟨Or.inr ⟨p, t, by omega, by omega, ?_, ?_, ?_, ?_, ?_, fun j hj => ?_⟩, fun j hj => ?_⟩
    · rfl
    · rfl
    · rfl
    · rfl
    · rfl
    · dsimp only
      rw [va_us]
      unfold ck_cp
      rw [if_pos (by omega), if_pos hj]
      exact hO j hj
    · dsimp only
      rw [va_upn (by decide)]
      exact hO j hj
  intro n
  induction n with
  | zero =>
    intro T S s k x y t p hs hpc hk hkK hx hy hpk ht hA hO hr
    have hs0 := ck_pc_0 s hs (by omega)
    rcases prune 0 T S s k x y t p (cx_lfv T (nI t) (nI p)) hs hpc hk hx hy hpk ht hA hO hr with ⟨a1, a2⟩ | ⟨a1, a2, a3⟩
    · rw [cx_go, a2, ck_try]
      have ek : k = K := by omega
      rw [ek]
      rw [ek] at hO
      exact leaf T S t p (by omega) (by omega) hO a1
    · rw [cx_go, a1]
      exact ⟨a2, a3⟩
  | succ n ih =>
    intro T S s k x y t p hs hpc hk hkK hx hy hpk ht hA hO hr
    rcases prune (n + 1) T S s k x y t p (if nI s = 0 then cx_lfv T (nI t) (nI p) else ck_fold (cx_gF CC VV (cx_go CC VV cl n) k (nI s) (nI x) (nI y) (nI t) (nI p)) cl T) hs hpc hk hx hy hpk ht hA hO hr with ⟨a1, a2⟩ | ⟨a1, a2, a3⟩
    · rw [cx_go, a2, ck_try]
      by_cases h0 : nI s = 0
      · rw [if_pos h0, if_pos h0]
        have hs0 : s = 0 := (nI_eq (a := s) (b := 0) (by omega) (by omega)).mp h0
        have ek : k = K := by rw [hs0] at hkK; exact hkK
        rw [ek]
        rw [ek] at hO
        exact leaf T S t p (by omega) (by omega) hO a1
      · rw [if_neg h0, if_neg h0]
        have key : ∀ c, c ≤ cl → cR_r K (ck_fold (cx_gF CC VV (cx_go CC VV cl n) k (nI s) (nI x) (nI y) (nI t) (nI p)) c T) (ck_fold (ck_trF (ck_try cl n) (nI s) k (nI x) (nI y) (nI t) (nI p)) c S) ∧ (∀ j, j < k → (ck_fold (cx_gF CC VV (cx_go CC VV cl n) k (nI s) (nI x) (nI y) (nI t) (nI p)) c T).2.1 j = (ck_fold (ck_trF (ck_try cl n) (nI s) k (nI x) (nI y) (nI t) (nI p)) c S).2 126 j) ∧ ∀ i, i ≠ 126 → i ≠ 127 → (ck_fold (ck_trF (ck_try cl n) (nI s) k (nI x) (nI y) (nI t) (nI p)) c S).2 i = A i := by
          intro c
          induction c with
          | zero => intro _; exact ⟨hr, hO, hA⟩
          | succ c ihc =>
            intro hc
            obtain ⟨i1, i2, i4⟩ := ihc (by omega)
            rw [ck_fold_s, ck_fold_s]
            generalize ck_fold (ck_trF (ck_try cl n) (nI s) k (nI x) (nI y) (nI t) (nI p)) c S = U at i1 i2 i4 ⊢
            generalize ck_fold (cx_gF CC VV (cx_go CC VV cl n) k (nI s) (nI x) (nI y) (nI t) (nI p)) c T = Z at i1 i2 ⊢
            unfold ck_trF cx_gF
            rw [ck_bt s hs c (by omega)]
            by_cases hb1 : s / 2 ^ c % 2 = 1
            · obtain ⟨b1, b2, b3⟩ := ck_bx s hs c (by omega) hb1
              obtain ⟨c0, c1, -, u, v, hu, hv, eu, ev⟩ := hp c (by omega)
              obtain ⟨l0, l1, l2, l3, l4, l5⟩ := hlr c (by omega)
              obtain ⟨f, hf, ef⟩ := hfar c x y (by omega) hx hy
              have ewy : ck_wy U.2 (nI x) (nI y) c = nI f := by
                unfold ck_wy
                rw [i4 100 (by decide) (by decide), i4 101 (by decide) (by decide)]
                exact ef
              rw [hb1, if_pos (show nI 1 = (1 : Int32) from rfl), if_neg (show ¬ nI 1 = (0 : Int32) by decide), b1, i4 100 (by decide) (by decide), i4 101 (by decide) (by decide), i4 102 (by decide) (by decide), i4 108 (by decide) (by decide), ewy, l1, l3, nI_add, ck_max0 (by omega) (by omega), ck_wnd l5 (by omega), nI_add]
              unfold cx_ct
              rw [cx_lf_eq hp (by omega) hx hy, ef, l0, l2, c0, c1, nI_add, Nat.add_comm f t, cj_max0 (by omega) (by omega), ck_wnd l5 (by omega), nI_add, eu, ev]
              have ep : ∃ p2, p ≤ p2 ∧ p2 ≤ p + 1 ∧ (nI p + if nI (lf c - (t + f)) = 0 then 1 else 0) = nI p2 := by
                by_cases hz : nI (lf c - (t + f)) = 0
                · rw [if_pos hz]
                  exact ⟨p + 1, by omega, by omega, nI_1 p⟩
                · rw [if_neg hz]
                  exact ⟨p, by omega, by omega, Int32.add_zero _⟩
              obtain ⟨p2, q1, q2, q3⟩ := ep
              rw [q3]
              have hw : (1440 * run c - (lf c - (t + f)) + 1439) / 1440 ≤ 32 := by omega
              obtain ⟨z1, z2⟩ := ih (Z.1, upd Z.2.1 k (nI c), Z.2.2) (U.1, va_up U.2 126 (upd (U.2 126) k (nI c))) (s - 2 ^ c) (k + 1) u v (t + f + (1440 * run c - (lf c - (t + f)) + 1439) / 1440) p2 (Nat.lt_of_le_of_lt (Nat.sub_le _ _) hs) (by omega) (by omega) (by omega) hu hv (by omega) (by omega)
                (fun i h1 h2 => (va_upn h1).trans (i4 i h1 h2)) (fun j hj => by
                  try dsimp only
                  rw [va_us]
                  by_cases e : j = k
                  · rw [e, pk_us, pk_us]
                  · rw [pk_un e, pk_un e]
                    exact i2 j (by omega)) (by
                  rcases i1 with ⟨r1, r2, r3⟩ | ⟨st, bt, hst, hbt, r1, r2, r3, r4, r5, r6⟩
                  · exact Or.inl ⟨r1, r2, r3⟩
                  · exact Or.inr ⟨st, bt, hst, hbt, r1, r2, r3, r4, r5, fun j hj => (r6 j hj).trans (by dsimp only; rw [va_upn (by decide)])⟩)
              have z4 := fun i h1 h2 => (ck_try_fr (cl := cl) n (U.1, va_up U.2 126 (upd (U.2 126) k (nI c))) (nI (s - 2 ^ c)) (k + 1) (nI u) (nI v) (nI (t + f + (1440 * run c - (lf c - (t + f)) + 1439) / 1440)) (nI p2)).2 i ⟨h1, h2⟩
              refine ⟨z1, fun j hj => z2 j (by omega), fun i h1 h2 => ?_⟩
              rw [z4 i h1 h2]; exact (va_upn h1).trans (i4 i h1 h2)
            · rw [show s / 2 ^ c % 2 = 0 by omega, if_neg (show ¬ nI 0 = (1 : Int32) by decide), if_pos (show nI 0 = (0 : Int32) from rfl)]
              exact ⟨i1, i2, i4⟩
        obtain ⟨k1, k2, -⟩ := key cl (Nat.le_refl _)
        exact ⟨k1, k2⟩
    · rw [cx_go, a1]
      exact ⟨a2, a3⟩
/-- behind a whole round a way is found -/
theorem ck_try_63 {cl : Nat} {K : Nat} (hcl : cl ≤ 8) (hK : 1 ≤ K ∧ K ≤ 6) : ∀ n (S : ck_T) (s k : Nat) (x y tm sp : Int32), s < 2 ^ cl → s < 256 → ck_pc s ≤ n → k + ck_pc s = K → (S.1 63 = 0 ∨ S.1 63 = nI K) → (ck_try cl n S (nI s) k x y tm sp).1 63 = nI K := by
  have leaf : ∀ (S : ck_T) (tm sp : Int32), (S.1 63 = 0 ∨ S.1 63 = nI K) → (ck_tl S K tm sp).1 63 = nI K := by
    intro S tm sp h
    have e : upd (upd (upd S.1 63 (nI K)) 61 sp) 62 tm 63 = nI K := by rw [pk_un (by decide), pk_un (by decide), pk_us]
    unfold ck_tl
    try dsimp only
    rcases h with h | h
    · rw [h, if_pos (by decide)]; exact e
    · split
      · exact e
      · split
        · exact h
        · split
          · split
            · exact e
            · exact h
          · exact e
  intro n
  induction n with
  | zero =>
    intro S s k x y tm sp hs2 hs hpc hk h
    rw [ck_try, show k = K by omega]
    exact leaf S tm sp h
  | succ n ih =>
    intro S s k x y tm sp hs2 hs hpc hk h
    rw [ck_try]
    by_cases h0 : nI s = 0
    · have hs0 : s = 0 := (nI_eq (a := s) (b := 0) (by omega) (by omega)).mp h0
      rw [if_pos h0, show k = K by rw [hs0] at hk; exact hk]
      exact leaf S tm sp h
    · rw [if_neg h0]
      have key : ∀ c, c ≤ cl → ((ck_fold (ck_trF (ck_try cl n) (nI s) k x y tm sp) c S).1 63 = 0 ∧ S.1 63 = 0 ∧ s % 2 ^ c = 0) ∨ (ck_fold (ck_trF (ck_try cl n) (nI s) k x y tm sp) c S).1 63 = nI K := by
        intro c
        induction c with
        | zero =>
          intro _
          rcases h with h | h
          · exact Or.inl ⟨h, h, Nat.mod_one _⟩
          · exact Or.inr h
        | succ c ihc =>
          intro hc
          have i1 := ihc (by omega)
          rw [ck_fold_s]
          generalize ck_fold (ck_trF (ck_try cl n) (nI s) k x y tm sp) c S = U at i1 ⊢
          unfold ck_trF
          rw [ck_bt s hs c (by omega)]
          by_cases hb1 : s / 2 ^ c % 2 = 1
          · obtain ⟨b1, b2, b3⟩ := ck_bx s hs c (by omega) hb1
            rw [if_neg (by rw [hb1]; decide), b1]
            right
            exact ih (U.1, va_up U.2 126 (upd (U.2 126) k (nI c))) (s - 2 ^ c) (k + 1) _ _ _ _ (Nat.lt_of_le_of_lt (Nat.sub_le _ _) hs2) (Nat.lt_of_le_of_lt (Nat.sub_le _ _) hs) (by omega) (by omega) (by
              rcases i1 with ⟨i1, -⟩ | i1
              · exact Or.inl i1
              · exact Or.inr i1)
          · rw [if_pos (by rw [show s / 2 ^ c % 2 = 0 by omega]; rfl)]
            rcases i1 with ⟨i1, i2, i3⟩ | i1
            · refine Or.inl ⟨i1, i2, ?_⟩
              rw [Nat.pow_succ, Nat.mod_mul, i3, show s / 2 ^ c % 2 = 0 by omega, Nat.mul_zero]
            · exact Or.inr i1
      rcases key cl (Nat.le_refl _) with ⟨-, -, i3⟩ | i1
      · exfalso
        rw [Nat.mod_eq_of_lt hs2] at i3
        exact h0 (by rw [i3]; rfl)
      · exact i1

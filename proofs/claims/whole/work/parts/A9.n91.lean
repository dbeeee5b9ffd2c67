/-! words: letters in a row, and the number they make -/
def cx_ll (T : Nat → Int32) : Nat → Nat → List Nat
  | 0, _ => []
  | f + 1, a => if 97 ≤ T a ∧ T a ≤ 122 then (T a - 96).toNatClampNeg :: cx_ll T f (a + 1) else []
def cx_g (c : Int32) : Nat := (c - 96).toNatClampNeg
def cx_fo5 (v : Nat) (l : List Nat) : Nat := l.foldl (fun v d => v * 32 + d) v
theorem cx_leI {t : Int32} (h : 97 ≤ t ∧ t ≤ 122) : ∃ k : Nat, t = nI k ∧ 97 ≤ k ∧ k ≤ 122 := by
  have h0 : ¬ t < 0 := by
    intro q
    have := Int32.lt_iff_toInt_lt.mp q
    have h1 := Int32.le_iff_toInt_le.mp h.1
    have e1 : (97 : Int32).toInt = 97 := by decide
    have e2 : (0 : Int32).toInt = 0 := by decide
    omega
  obtain ⟨k, hk, rfl⟩ := nI_of h0
  exact ⟨k, rfl, (nI_leI (a := 97) (b := k) (by omega) hk).mp h.1, (nI_leI (a := k) (b := 122) hk (by omega)).mp h.2⟩
theorem cx_gI {k : Nat} (h1 : 97 ≤ k) (h2 : k ≤ 122) : cx_g (nI k) = k - 96 := by
  unfold cx_g
  rw [show (96 : Int32) = nI 96 from rfl, pk_sub (a := k) (b := 96) (by omega), nI_clamp (by omega)]
theorem cx_ll_ps (T : Nat → Int32) : ∀ f a, ck_psf T f a = a + (cx_ll T f a).length := by
  intro f
  induction f with
  | zero => intro a; rfl
  | succ f ih =>
    intro a
    show (if 97 ≤ T a ∧ T a ≤ 122 then ck_psf T f (a + 1) else a) = a + (if 97 ≤ T a ∧ T a ≤ 122 then (T a - 96).toNatClampNeg :: cx_ll T f (a + 1) else []).length
    by_cases h : 97 ≤ T a ∧ T a ≤ 122
    · rw [if_pos h, if_pos h, ih, List.length_cons]; omega
    · rw [if_neg h, if_neg h]; rfl
theorem cx_ll_d (T : Nat → Int32) : ∀ f a, ∀ d ∈ cx_ll T f a, 1 ≤ d ∧ d < 32 := by
  intro f
  induction f with
  | zero => intro a d h; cases h
  | succ f ih =>
    intro a d h
    have h : d ∈ (if 97 ≤ T a ∧ T a ≤ 122 then (T a - 96).toNatClampNeg :: cx_ll T f (a + 1) else []) := h
    by_cases q : 97 ≤ T a ∧ T a ≤ 122
    · rw [if_pos q] at h
      rcases List.mem_cons.mp h with e | h
      · obtain ⟨k, hk, k1, k2⟩ := cx_leI q
        have e2 := cx_gI k1 k2
        unfold cx_g at e2
        rw [e, hk, e2]
        omega
      · exact ih _ _ h
    · rw [if_neg q] at h; cases h
theorem cx_ll_eq (T : Nat → Int32) : ∀ (f a : Nat) (cs : List Int32), (∀ c ∈ cs, 97 ≤ c ∧ c ≤ 122) → (cx_ll T f a = cs.map cx_g ↔ cs.length = (cx_ll T f a).length ∧ cx_eqs T a cs = true) := by
  intro f
  induction f with
  | zero =>
    intro a cs hcs
    cases cs with
    | nil => exact ⟨fun _ => ⟨rfl, rfl⟩, fun _ => rfl⟩
    | cons c r => exact ⟨fun h => (by cases h), fun h => (by cases h.1)⟩
  | succ f ih =>
    intro a cs hcs
    show ((if 97 ≤ T a ∧ T a ≤ 122 then (T a - 96).toNatClampNeg :: cx_ll T f (a + 1) else []) = cs.map cx_g ↔ cs.length = (if 97 ≤ T a ∧ T a ≤ 122 then (T a - 96).toNatClampNeg :: cx_ll T f (a + 1) else []).length ∧ cx_eqs T a cs = true)
    by_cases q : 97 ≤ T a ∧ T a ≤ 122
    · rw [if_pos q]
      cases cs with
      | nil => exact ⟨fun h => (by cases h), fun h => (by cases h.1)⟩
      | cons c r =>
        have hr := ih (a + 1) r (fun c9 h9 => hcs c9 (List.mem_cons_of_mem _ h9))
        obtain ⟨k, hk, k1, k2⟩ := cx_leI q
        obtain ⟨j, hj, j1, j2⟩ := cx_leI (hcs c List.mem_cons_self)
        have e1 : (T a - 96).toNatClampNeg = k - 96 := by rw [hk]; exact cx_gI k1 k2
        have e2 : cx_g c = j - 96 := by rw [hj]; exact cx_gI j1 j2
        rw [e1, List.map_cons, e2, List.length_cons, List.length_cons]
        unfold cx_eqs
        constructor
        · intro h
          obtain ⟨h1, h2⟩ := List.cons.inj h
          have h3 := hr.mp h2
          refine ⟨by rw [h3.1], ?_⟩
          rw [h3.2, decide_eq_true (show c = T a by rw [hj, hk, show j = k by omega])]
          rfl
        · rintro ⟨h1, h2⟩
          obtain ⟨h3, h4⟩ := (Bool.and_eq_true _ _).mp h2
          have h5 : c = T a := of_decide_eq_true h3
          rw [hj, hk] at h5
          rw [(hr.mpr ⟨by omega, h4⟩), (nI_eq (by omega) (by omega)).mp h5]
    · rw [if_neg q]
      cases cs with
      | nil => exact ⟨fun _ => ⟨rfl, rfl⟩, fun _ => rfl⟩
      | cons c r => exact ⟨fun h => (by cases h), fun h => (by cases h.1)⟩
theorem cx_shl5 (v : Nat) : lN v <<< ((5 : Int32).toInt64 &&& 63) = lN (v * 32) := by
  rw [show ((5 : Int32).toInt64 &&& 63) = (5 : Int64) by decide]
  apply Int64.toBitVec_inj.mp
  rw [Int64.toBitVec_shiftLeft, show ((5 : Int64).toBitVec.smod 64) = BitVec.ofNat 64 5 by decide]
  apply BitVec.eq_of_toNat_eq
  show (BitVec.ofNat 64 v <<< BitVec.ofNat 64 5).toNat = (BitVec.ofNat 64 (v * 32)).toNat
  rw [BitVec.shiftLeft_eq', BitVec.toNat_shiftLeft, BitVec.toNat_ofNat, BitVec.toNat_ofNat, BitVec.toNat_ofNat, Nat.shiftLeft_eq, show (5 % 2 ^ 64 : Nat) = 5 by decide]
  omega
theorem cx_or5 {v d : Nat} (hd : d < 32) (hv : v < 2 ^ 50) : lN (v * 32) ||| lN d = lN (v * 32 + d) := by
  apply Int64.toBitVec_inj.mp
  rw [Int64.toBitVec_or]
  apply BitVec.eq_of_toNat_eq
  show (BitVec.ofNat 64 (v * 32) ||| BitVec.ofNat 64 d).toNat = (BitVec.ofNat 64 (v * 32 + d)).toNat
  rw [BitVec.toNat_or, BitVec.toNat_ofNat, BitVec.toNat_ofNat, BitVec.toNat_ofNat, Nat.mod_eq_of_lt (by omega), Nat.mod_eq_of_lt (by omega), Nat.mod_eq_of_lt (by omega)]
  have := Nat.shiftLeft_add_eq_or_of_lt (i := 5) (b := d) (by omega) v
  rw [Nat.shiftLeft_eq] at this
  exact this.symm
theorem cx_i2l {j : Nat} (h : j < 2 ^ 31) : (nI j).toInt64 = lN j := by
  apply Int64.toInt_inj.mp
  rw [Int32.toInt_toInt64, nI_toInt h, lN_toInt h]
theorem cx_lNe {a b : Nat} (ha : a < 2 ^ 63) (hb : b < 2 ^ 63) (h : lN a = lN b) : a = b := by
  have e1 : (lN a).toInt = (a : Int) := lg_ofNat_toInt (by omega)
  have e2 : (lN b).toInt = (b : Int) := lg_ofNat_toInt (by omega)
  rw [h, e2] at e1
  omega
theorem cx_wofL (T : Nat → Int32) : ∀ (f a v k : Nat), k + (cx_ll T f a).length ≤ 8 → v < 2 ^ (5 * k) → ck_wof T f a (lN v) k = (lN (cx_fo5 v (cx_ll T f a)), k + (cx_ll T f a).length) := by
  intro f
  induction f with
  | zero => intro a v k _ _; rfl
  | succ f ih =>
    intro a v k hk hv
    show (if 97 ≤ T a ∧ T a ≤ 122 then ck_wof T f (a + 1) (if k < 8 then (lN v <<< ((5 : Int32).toInt64 &&& 63)) ||| (T a - 96).toInt64 else 0) (k + 1) else (lN v, k)) = (lN (cx_fo5 v (if 97 ≤ T a ∧ T a ≤ 122 then (T a - 96).toNatClampNeg :: cx_ll T f (a + 1) else [])), k + (if 97 ≤ T a ∧ T a ≤ 122 then (T a - 96).toNatClampNeg :: cx_ll T f (a + 1) else []).length)
    have hk : k + (if 97 ≤ T a ∧ T a ≤ 122 then (T a - 96).toNatClampNeg :: cx_ll T f (a + 1) else []).length ≤ 8 := hk
    by_cases q : 97 ≤ T a ∧ T a ≤ 122
    · rw [if_pos q] at hk
      rw [if_pos q, if_pos q]
      rw [List.length_cons] at hk
      obtain ⟨j, hj, j1, j2⟩ := cx_leI q
      have e1 : (T a - 96).toNatClampNeg = j - 96 := by rw [hj]; exact cx_gI j1 j2
      have e3 : (T a - 96).toInt64 = lN (j - 96) := by
        rw [hj, show (96 : Int32) = nI 96 from rfl, pk_sub (a := j) (b := 96) (by omega)]
        exact cx_i2l (by omega)
      have hv5 : v < 2 ^ 35 := Nat.lt_of_lt_of_le hv (Nat.pow_le_pow_right (by decide) (by omega))
      rw [if_pos (show k < 8 by omega), cx_shl5, e3, cx_or5 (by omega) (by omega), e1]
      have h2 : v * 32 + (j - 96) < 2 ^ (5 * (k + 1)) := by
        rw [show 5 * (k + 1) = 5 * k + 5 by omega, Nat.pow_add]
        omega
      rw [ih (a + 1) _ (k + 1) (by omega) h2, List.length_cons]
      exact Prod.ext rfl (show k + 1 + _ = k + (_ + 1) by omega)
    · rw [if_neg q, if_neg q]; rfl
theorem cx_wof2 (T : Nat → Int32) : ∀ (f a : Nat) (v : Int64) (k : Nat), (ck_wof T f a v k).2 = k + (cx_ll T f a).length := by
  intro f
  induction f with
  | zero => intro a v k; rfl
  | succ f ih =>
    intro a v k
    show (if 97 ≤ T a ∧ T a ≤ 122 then ck_wof T f (a + 1) (if k < 8 then (v <<< ((5 : Int32).toInt64 &&& 63)) ||| (T a - 96).toInt64 else 0) (k + 1) else (v, k)).2 = k + (if 97 ≤ T a ∧ T a ≤ 122 then (T a - 96).toNatClampNeg :: cx_ll T f (a + 1) else []).length
    by_cases q : 97 ≤ T a ∧ T a ≤ 122
    · rw [if_pos q, if_pos q, ih, List.length_cons]; omega
    · rw [if_neg q, if_neg q]; rfl
theorem cx_woL (T : Nat → Int32) (n a : Nat) : ck_wo_ T n a = if 8 < (cx_ll T (n - a) a).length then 0 else lN (cx_fo5 0 (cx_ll T (n - a) a)) := by
  unfold ck_wo_
  rw [cx_wof2, Nat.zero_add]
  by_cases h : 8 < (cx_ll T (n - a) a).length
  · rw [if_pos h, if_pos h]
  · rw [if_neg h, if_neg h, show (0 : Int64) = lN 0 from rfl, cx_wofL T _ _ 0 0 (by omega) (by decide)]
theorem cx_fo_b : ∀ (l : List Nat) (v : Nat), (∀ d ∈ l, 1 ≤ d ∧ d < 32) → v * 32 ^ l.length ≤ cx_fo5 v l ∧ cx_fo5 v l < (v + 1) * 32 ^ l.length := by
  intro l
  induction l with
  | nil => intro v _; exact ⟨by show v * 32 ^ 0 ≤ v; omega, by show v < (v + 1) * 32 ^ 0; omega⟩
  | cons d r ih =>
    intro v h
    have hd := h d List.mem_cons_self
    have := ih (v * 32 + d) (fun d9 h9 => h d9 (List.mem_cons_of_mem _ h9))
    rw [List.length_cons, Nat.pow_succ]
    show v * (32 ^ r.length * 32) ≤ cx_fo5 (v * 32 + d) r ∧ cx_fo5 (v * 32 + d) r < (v + 1) * (32 ^ r.length * 32)
    have e1 : v * (32 ^ r.length * 32) = v * 32 * 32 ^ r.length := by rw [Nat.mul_comm (32 ^ r.length) 32, Nat.mul_assoc]
    have e2 : (v + 1) * (32 ^ r.length * 32) = (v * 32 + 32) * 32 ^ r.length := by rw [Nat.mul_comm (32 ^ r.length) 32, ← Nat.mul_assoc, Nat.add_mul v 1 32]
    rw [e1, e2]
    exact ⟨Nat.le_trans (Nat.mul_le_mul_right _ (by omega)) this.1, Nat.lt_of_lt_of_le this.2 (Nat.mul_le_mul_right _ (by omega))⟩
theorem cx_fo_i : ∀ (l1 l2 : List Nat) (v1 v2 : Nat), (∀ d ∈ l1, 1 ≤ d ∧ d < 32) → (∀ d ∈ l2, 1 ≤ d ∧ d < 32) → l1.length = l2.length → cx_fo5 v1 l1 = cx_fo5 v2 l2 → v1 = v2 ∧ l1 = l2 := by
  intro l1
  induction l1 with
  | nil =>
    intro l2 v1 v2 _ _ hl he
    cases l2 with
    | nil => exact ⟨he, rfl⟩
    | cons d r => cases hl
  | cons d r ih =>
    intro l2 v1 v2 h1 h2 hl he
    cases l2 with
    | nil => cases hl
    | cons d2 r2 =>
      obtain ⟨q1, q2⟩ := ih r2 (v1 * 32 + d) (v2 * 32 + d2) (fun d9 h9 => h1 d9 (List.mem_cons_of_mem _ h9)) (fun d9 h9 => h2 d9 (List.mem_cons_of_mem _ h9)) (Nat.succ.inj hl) he
      have z1 := h1 d List.mem_cons_self
      have z2 := h2 d2 List.mem_cons_self
      exact ⟨by omega, by rw [q2, show d = d2 by omega]⟩
theorem cx_fo_p {l : List Nat} (h : ∀ d ∈ l, 1 ≤ d ∧ d < 32) (hl : 1 ≤ l.length) : 32 ^ (l.length - 1) ≤ cx_fo5 0 l ∧ cx_fo5 0 l < 32 ^ l.length := by
  cases l with
  | nil => exact absurd hl (by decide)
  | cons d r =>
    have hd := h d List.mem_cons_self
    have h1 := cx_fo_b r (0 * 32 + d) (fun d9 h9 => h d9 (List.mem_cons_of_mem _ h9))
    have h2 := (cx_fo_b (d :: r) 0 h).2
    rw [Nat.zero_add, Nat.one_mul] at h2
    refine ⟨?_, h2⟩
    show 32 ^ (r.length + 1 - 1) ≤ cx_fo5 (0 * 32 + d) r
    exact Nat.le_trans (by rw [Nat.add_sub_cancel]; exact Nat.le_mul_of_pos_left _ (by omega)) h1.1
theorem cx_fo_e {l1 l2 : List Nat} (h1 : ∀ d ∈ l1, 1 ≤ d ∧ d < 32) (h2 : ∀ d ∈ l2, 1 ≤ d ∧ d < 32) (hl : 1 ≤ l2.length) (he : cx_fo5 0 l1 = cx_fo5 0 l2) : l1 = l2 := by
  by_cases h0 : l1.length = 0
  · have e : l1 = [] := List.eq_nil_of_length_eq_zero h0
    subst e
    have := (cx_fo_p h2 hl).1
    have h9 : 1 ≤ 32 ^ (l2.length - 1) := Nat.pos_of_ne_zero (by intro q; exact absurd (Nat.pow_eq_zero.mp q).1 (by decide))
    have e0 : cx_fo5 0 [] = 0 := rfl
    omega
  · have a1 := cx_fo_p h1 (by omega)
    have a2 := cx_fo_p h2 hl
    rcases Nat.lt_trichotomy l1.length l2.length with q | q | q
    · have := Nat.pow_le_pow_right (n := 32) (by decide) (show l1.length ≤ l2.length - 1 by omega)
      omega
    · exact (cx_fo_i l1 l2 0 0 h1 h2 q he).2
    · have := Nat.pow_le_pow_right (n := 32) (by decide) (show l2.length ≤ l1.length - 1 by omega)
      omega
theorem kz_byc : ∀ i : Fin 23, (kz_by i.1).all (fun c => decide (97 ≤ c ∧ c ≤ 122)) = true ∧ 1 ≤ (kz_by i.1).length ∧ (kz_by i.1).length ≤ 8 := by decide +kernel
def kz_co (i : Nat) : Int64 := lN (cx_fo5 0 ((kz_by i).map cx_g))
/-- the class's word and the model's -/
theorem cx_wd {T : Nat → Int32} {n b : Nat} {i : Nat} (hi : i < 23) : cx_is T b (ck_ps T n b) i = true ↔ ck_wo_ T n b = kz_co i := by
  obtain ⟨c1, c2, c3⟩ := kz_byc ⟨i, hi⟩
  have c2 : 1 ≤ (kz_by i).length := c2
  have c3 : (kz_by i).length ≤ 8 := c3
  have c1 : ∀ c ∈ kz_by i, 97 ≤ c ∧ c ≤ 122 := fun c hc => of_decide_eq_true (List.all_eq_true.mp c1 c hc)
  have hm : ∀ d ∈ (kz_by i).map cx_g, 1 ≤ d ∧ d < 32 := by
    intro d hd
    obtain ⟨c, hc, rfl⟩ := List.mem_map.mp hd
    obtain ⟨k, hk, k1, k2⟩ := cx_leI (c1 c hc)
    rw [hk, cx_gI k1 k2]
    omega
  have hq := cx_ll_eq T (n - b) b (kz_by i) c1
  have hp : ck_ps T n b = b + (cx_ll T (n - b) b).length := cx_ll_ps T _ _
  have h1 : cx_is T b (ck_ps T n b) i = true ↔ cx_ll T (n - b) b = (kz_by i).map cx_g := by
    rw [hq]
    unfold cx_is
    rw [hp, Nat.add_sub_cancel_left, Bool.and_eq_true, decide_eq_true_eq]
  rw [h1, cx_woL]
  have hpos : 1 ≤ ((kz_by i).map cx_g).length := by rw [List.length_map]; exact c2
  have hlt := (cx_fo_p hm hpos).2
  rw [List.length_map] at hlt
  have hlt2 : cx_fo5 0 ((kz_by i).map cx_g) < 2 ^ 40 := Nat.lt_of_lt_of_le hlt (by
    rw [show (32 : Nat) = 2 ^ 5 from rfl, ← Nat.pow_mul]
    exact Nat.pow_le_pow_right (by decide) (by omega))
  constructor
  · intro h
    rw [h, if_neg (by rw [List.length_map]; omega)]
    rfl
  · intro h
    unfold kz_co at h
    by_cases h8 : 8 < (cx_ll T (n - b) b).length
    · rw [if_pos h8, show (0 : Int64) = lN 0 from rfl] at h
      have := cx_lNe (by omega) (by omega) h
      have h9 := (cx_fo_p hm hpos).1
      have h7 : 1 ≤ 32 ^ (((kz_by i).map cx_g).length - 1) := Nat.pos_of_ne_zero (by intro q; exact absurd (Nat.pow_eq_zero.mp q).1 (by decide))
      omega
    · rw [if_neg h8] at h
      have hb := (cx_fo_b (cx_ll T (n - b) b) 0 (cx_ll_d T _ _)).2
      have hlt3 : cx_fo5 0 (cx_ll T (n - b) b) < 2 ^ 40 := Nat.lt_of_lt_of_le hb (by
        rw [Nat.zero_add, Nat.one_mul, show (32 : Nat) = 2 ^ 5 from rfl, ← Nat.pow_mul]
        exact Nat.pow_le_pow_right (by decide) (by omega))
      exact cx_fo_e (cx_ll_d T _ _) hm hpos (cx_lNe (by omega) (by omega) h)

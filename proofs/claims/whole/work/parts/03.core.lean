/-! THE PURE MACHINE: worlds of pure cells under pure names; a block of instructions as a predicate transformer (kx_wp); its soundness over W once and for all. -/
abbrev kx_C : Type := (Nat × Nat × (Nat → Int32)) ⊕ (Nat × (Nat → Int64)) ⊕ (Nat × (Nat → Option Nat)) ⊕ (Nat × (Nat → Value))
abbrev kx_P : Type := Nat → Option kx_C
abbrev kI (t n : Nat) (g : Nat → Int32) : Option kx_C := some (.inl (t, n, g))
abbrev kL (n : Nat) (g : Nat → Int64) : Option kx_C := some (.inr (.inl (n, g)))
abbrev kR (n : Nat) (g : Nat → Option Nat) : Option kx_C := some (.inr (.inr (.inl (n, g))))
abbrev kO (c : Nat) (f : Nat → Value) : Option kx_C := some (.inr (.inr (.inr (c, f))))
/-- D, the addresses of names, the array classes, the heap at the law's start, the static arrays -/
abbrev kx_G : Type := va_G × (Nat → Nat) × (Nat → ClassId) × Heap × (Nat → Nat × (Nat → Int32))
abbrev kx_cl : List vw_C := [(RX0, TX0, 4), (RX1, TX1, 16), (RX2, TX2, 3), (RX3, TX3, 4), (RX4, TX4, 8), (RX5, TX5, 10), (RX6, TX6, 5), (RX7, TX7, 9), (RX8, TX8, 10), (RX9, TX9, 17), (RX10, TX10, 16), (RX11, TX11, 91)]
def kx_ty : Nat → Nat → FieldType := fun c => match c with
  | 0 => tyX0 | 1 => tyX1 | 2 => tyX2 | 3 => tyX3 | 4 => tyX4 | 5 => tyX5 | 6 => tyX6 | 7 => tyX7 | 8 => tyX8 | 9 => tyX9 | 10 => tyX10 | _ => tyX11
def kx_v (ad : Nat → Nat) (v : Value) : Value := match v with
  | .ref n => .ref (ad n)
  | w => w
def kx_aty (t : Nat) : FieldType := match t with
  | 0 => .int | 1 => .long | 2 => .boolean | _ => .object "ClockKeeper$Clock"
def kx_at (G : kx_G) (q : Nat) (x : kx_C) (H : Heap) : Prop := match x with
  | .inl (t, n, g) => (t < 3 ∧ H[q]? = some (arrV (G.2.2.1 t) n (fun j => .int (g j)))) ∨ (t = 5 ∧ ∃ z, z < 4 ∧ q = G.2.1 z ∧ G.2.2.2.2 z = (n, g))
  | .inr (.inl (n, g)) => H[q]? = some (arrV (G.2.2.1 1) n (fun j => .long (g j)))
  | .inr (.inr (.inl (n, g))) => H[q]? = some (arrV (G.2.2.1 3) n (fun j => va_rf ((g j).map G.2.1)))
  | .inr (.inr (.inr (c, f))) => ∃ r : vw_C, kx_cl[c]? = some r ∧ t_OB q (G.1.1 c) r.2.2 (G.1.2 c) H (fun j => kx_v G.2.1 (f j))
/-- the heap holds the world P, whose next name is sz -/
def kx_W (G : kx_G) (P : kx_P) (sz : Nat) (H : Heap) : Prop := 64 ≤ sz ∧ H.size = G.2.1 sz ∧ (∀ q : Nat, q < G.2.2.2.1.size → H[q]? = G.2.2.2.1[q]?) ∧ ∀ n x, P n = some x → n < sz ∧ kx_at G (G.2.1 n) x H
def kx_ad (G : kx_G) : Prop := (∀ n, 64 ≤ n → G.2.1 n = G.2.2.2.1.size + (n - 64)) ∧ ∀ n, n < 64 → G.2.1 n < G.2.2.2.1.size
def kx_tys (G : kx_G) : List (ClassId × FieldType) := [(G.2.2.1 0, .int), (G.2.2.1 1, .long), (G.2.2.1 2, .boolean), (G.2.2.1 3, .object "ClockKeeper$Clock")]
def kx_nw : List Cond := tables_1.filter (fun w => match w with | .methodLinkNest _ _ _ _ => true | _ => false)
/-- a static array of ints, an old cell -/
def kx_ro (G : kx_G) (n : Nat) (U : State) : Prop := ∃ cell : Cell, G.2.2.2.1[G.2.1 n]? = some cell ∧ U.isArrayOf cell .int ∧ cell.vm ≠ .unknown ∧ cell.slots.size = (G.2.2.2.2 n).1 ∧ ∀ j : Nat, j < (G.2.2.2.2 n).1 → cell.slots[j]? = some (.int ((G.2.2.2.2 n).2 j))
def kx_st (G : kx_G) (C n d : String) (k : Nat) (U : State) : Prop := va_Z C n d (.ref (G.2.1 k)) (fun q => G.2.2.2.1.size ≤ q) U G.2.2.2.1
def kx_cs : List String := ["java/lang/IllegalArgumentException", "java/lang/IllegalStateException", "java/util/NoSuchElementException"]
def kx_nc : List (String × String) := [("java/lang/IllegalArgumentException", "java/util/NoSuchElementException"), ("java/lang/IllegalStateException", "java/util/NoSuchElementException"), ("java/lang/IllegalStateException", "java/lang/IllegalArgumentException")]
def kx_ds : List MethodName := [⟨"java/lang/RuntimeException", "<init>", "()V"⟩, ⟨"java/lang/Exception", "<init>", "()V"⟩, ⟨"java/lang/Throwable", "<init>", "()V"⟩]
/-- the exceptions: each fits itself, and not the other's handler -/
def kx_K3 (U : State) : Prop := (∀ q ∈ kx_cs, va_Nw (.castable q q) U) ∧ (∀ q ∈ kx_ds, va_Nw (.declares q) U) ∧ ∀ q ∈ kx_nc, va_Nc q.1 q.2 U
theorem kx_K3.moved {u U : State} (hW : u.WarmedH U.vm) (h : kx_K3 u) : kx_K3 U := ⟨fun q hq => va_Nw.warmC hW (h.1 q hq), fun q hq => va_Nw.warmD hW (h.2.1 q hq), fun q hq => va_Nc.moved hW.alike (h.2.2 q hq)⟩
/-- the string constants of the reader of texts: place, text, bytes -/
def kz_ix : Nat → Nat := fun i => match i with
  | 0 => 124
  | 1 => 126
  | 2 => 128
  | 3 => 130
  | 4 => 132
  | 5 => 134
  | 6 => 136
  | 7 => 138
  | 8 => 94
  | 9 => 100
  | 10 => 102
  | 11 => 104
  | 12 => 159
  | 13 => 221
  | 14 => 223
  | 15 => 225
  | 16 => 227
  | 17 => 167
  | 18 => 186
  | 19 => 191
  | 20 => 193
  | 21 => 197
  | _ => 199
def kz_tx : Nat → String := fun i => match i with
  | 0 => "run"
  | 1 => "base"
  | 2 => "warm"
  | 3 => "wear"
  | 4 => "pull"
  | 5 => "penny"
  | 6 => "strokes"
  | 7 => "reach"
  | 8 => "strike"
  | 9 => "quarters"
  | 10 => "silent"
  | 11 => "calendar"
  | 12 => "rack"
  | 13 => "hour"
  | 14 => "date"
  | 15 => "month"
  | 16 => "if"
  | 17 => "wheel"
  | 18 => "stopped"
  | 19 => "held"
  | 20 => "plain"
  | 21 => "months"
  | _ => "leap"
def kz_by : Nat → List Int32 := fun i => match i with
  | 0 => [114, 117, 110]
  | 1 => [98, 97, 115, 101]
  | 2 => [119, 97, 114, 109]
  | 3 => [119, 101, 97, 114]
  | 4 => [112, 117, 108, 108]
  | 5 => [112, 101, 110, 110, 121]
  | 6 => [115, 116, 114, 111, 107, 101, 115]
  | 7 => [114, 101, 97, 99, 104]
  | 8 => [115, 116, 114, 105, 107, 101]
  | 9 => [113, 117, 97, 114, 116, 101, 114, 115]
  | 10 => [115, 105, 108, 101, 110, 116]
  | 11 => [99, 97, 108, 101, 110, 100, 97, 114]
  | 12 => [114, 97, 99, 107]
  | 13 => [104, 111, 117, 114]
  | 14 => [100, 97, 116, 101]
  | 15 => [109, 111, 110, 116, 104]
  | 16 => [105, 102]
  | 17 => [119, 104, 101, 101, 108]
  | 18 => [115, 116, 111, 112, 112, 101, 100]
  | 19 => [104, 101, 108, 100]
  | 20 => [112, 108, 97, 105, 110]
  | 21 => [109, 111, 110, 116, 104, 115]
  | _ => [108, 101, 97, 112]
/-- the reader's strings, and the statics that strings and exceptions use: old cells, nobody writes them -/
def kx_K2 (G : kx_G) (U : State) : Prop := (∀ i, i < 23 → vk_R "ClockKeeper$TextReader" (kz_ix i) (kz_tx i) (G.2.1 (8 + i)) U ∧ va_O "java/lang/String" (G.2.1 (8 + i)) (fun q => G.2.2.2.1.size ≤ q) U G.2.2.2.1 ∧ va_OF "java/lang/String" "coder" "B" (.int 0) (G.2.1 (8 + i)) (fun q => G.2.2.2.1.size ≤ q) U G.2.2.2.1 ∧ va_OF "java/lang/String" "value" "[B" (.ref (G.2.1 (31 + i))) (G.2.1 (8 + i)) (fun q => G.2.2.2.1.size ≤ q) U G.2.2.2.1 ∧ va_T .byte (G.2.1 (31 + i)) (kz_by i).length (fun j => .int ((kz_by i).getD j 0)) (fun q => G.2.2.2.1.size ≤ q) U G.2.2.2.1) ∧
  va_Z "java/lang/String" "COMPACT_STRINGS" "Z" (.int 1) (fun q => G.2.2.2.1.size ≤ q) U G.2.2.2.1 ∧ va_Zq "jdk/internal/util/Preconditions" "SIOOBE_FORMATTER" "Ljava/util/function/BiFunction;" (fun q => G.2.2.2.1.size ≤ q) U G.2.2.2.1 ∧
  vx_Zq Bundle.tN "UNASSIGNED_STACK" Bundle.steD (fun q => G.2.2.2.1.size ≤ q) U G.2.2.2.1 ∧ vx_Zq Bundle.tN "SUPPRESSED_SENTINEL" Bundle.listD (fun q => G.2.2.2.1.size ≤ q) U G.2.2.2.1
theorem kx_K2.moved {G : kx_G} {u U : State} (hW : u.WarmedH U.vm) (h : kx_K2 G u) : kx_K2 G U :=
  ⟨fun i hi => ⟨vk_R.warm hW (h.1 i hi).1, va_O.moved hW.alike (h.1 i hi).2.1, va_OF.moved hW.alike (h.1 i hi).2.2.1, va_OF.moved hW.alike (h.1 i hi).2.2.2.1, va_T.moved hW.alike (h.1 i hi).2.2.2.2⟩, va_Z.moved hW.alike h.2.1, va_Zq.moved hW.alike h.2.2.1, vx_Zq.moved hW.alike h.2.2.2.1, vx_Zq.moved hW.alike h.2.2.2.2⟩
/-- what is known of the machine besides the heap -/
def kx_K (G : kx_G) (U : State) : Prop := va_K G.1 kx_cl (kx_tys G) U ∧ kx_ad G ∧ (∀ w ∈ kx_nw, va_Nw w U) ∧ va_AO "ClockKeeper$Clock" U ∧ (∀ n, n < 4 → kx_ro G n U) ∧
  kx_st G "ClockKeeper$Almanac" "MONTH_DAYS" "[I" 1 U ∧ kx_st G "ClockKeeper$Plan" "NOTES_FROM" "[I" 2 U ∧ kx_K3 U ∧ kx_K2 G U
/-- the words that every method stands on -/
def kx_ws : List Cond := lw_tbl.filter goodWord
theorem kx_ws_good : GoodIn kx_ws kx_ws := fun w hw => ⟨hw, good_of_word (List.mem_filter.mp hw).2⟩
/-! locals -/
def kx_gl : List (Option Value) → Nat → Option Value
  | [], _ => none
  | o :: _, 0 => o
  | _ :: r, n + 1 => kx_gl r n
def kx_sl : List (Option Value) → Nat → Option Value → List (Option Value)
  | [], _, _ => []
  | _ :: r, 0, x => x :: r
  | o :: r, n + 1, x => o :: kx_sl r n x
def kx_c2 (o : Option Value) : Bool := match o with
  | some (.long _) => true
  | some (.double _) => true
  | _ => false
theorem kx_c2_cat {v : Value} (h : v.category = 2) : kx_c2 (some v) = true := by cases v <;> first | rfl | cases h
/-- the local ahead of i, if it is a long, is gone -/
def kx_pre (ls : List (Option Value)) (i : Nat) : List (Option Value) := match i with
  | 0 => ls
  | j + 1 => match kx_c2 (kx_gl ls j) with
    | true => kx_sl ls j none
    | false => ls
def kx_s1 (ls : List (Option Value)) (i : Nat) (v : Value) : List (Option Value) := kx_sl (kx_pre ls i) i (some v)
def kx_s2 (ls : List (Option Value)) (i : Nat) (v : Value) : List (Option Value) := kx_sl (kx_sl (kx_pre ls i) (i + 1) none) i (some v)
def kx_ls (ad : Nat → Nat) (lsr : Array Slot) (ls : List (Option Value)) : Prop := lsr.size = ls.length ∧ lv_wf lsr ∧ ∀ (i : Nat) (v : Value), kx_gl ls i = some v → lsr[i]? = some (.val (kx_v ad v))
/-- there is a place i -/
def kx_pl : List (Option Value) → Nat → Prop → Prop
  | [], _, _ => False
  | _ :: _, 0, k => k
  | _ :: r, n + 1, k => kx_pl r n k
theorem kx_pl_d {k : Prop} : ∀ {ls : List (Option Value)} {i : Nat}, kx_pl ls i k → i < ls.length ∧ k := by
  intro ls
  induction ls with
  | nil => intro i h; exact h.elim
  | cons o r ih =>
    intro i h
    cases i with
    | zero => exact ⟨Nat.zero_lt_succ _, h⟩
    | succ i => exact ⟨Nat.succ_lt_succ (ih h).1, (ih h).2⟩
/-! the transformer -/
abbrev kx_F : Type := Nat → List (Option Value) → List Value → kx_P → Nat → Nat → Nat → Prop
def kx_pI (st : List Value) (k : Int32 → List Value → Prop) : Prop := match st with | .int x :: r => k x r | _ => False
def kx_pL (st : List Value) (k : Int64 → List Value → Prop) : Prop := match st with | .long x :: r => k x r | _ => False
def kx_pR (st : List Value) (k : Nat → List Value → Prop) : Prop := match st with | .ref x :: r => k x r | _ => False
def kx_pA (st : List Value) (k : Value → List Value → Prop) : Prop := match st with | .ref x :: r => k (.ref x) r | .null :: r => k .null r | _ => False
def kx_pV (st : List Value) (k : Value → List Value → Prop) : Prop := match st with | v :: r => k v r | _ => False
def kx_lI (ls : List (Option Value)) (i : Nat) (k : Int32 → Prop) : Prop := match kx_gl ls i with | some (.int x) => k x | _ => False
def kx_lL (ls : List (Option Value)) (i : Nat) (k : Int64 → Prop) : Prop := match kx_gl ls i with | some (.long x) => k x | _ => False
def kx_lA (ls : List (Option Value)) (i : Nat) (k : Value → Prop) : Prop := match kx_gl ls i with | some (.ref x) => k (.ref x) | some .null => k .null | _ => False
def kx_aI (o : Option kx_C) (k : Nat → Nat → (Nat → Int32) → Prop) : Prop := match o with | some (.inl (t, n, g)) => k t n g | _ => False
def kx_aL (o : Option kx_C) (k : Nat → (Nat → Int64) → Prop) : Prop := match o with | some (.inr (.inl (n, g))) => k n g | _ => False
def kx_aR (o : Option kx_C) (k : Nat → (Nat → Option Nat) → Prop) : Prop := match o with | some (.inr (.inr (.inl (n, g)))) => k n g | _ => False
def kx_eqN : Nat → Nat → Prop → Prop
  | 0, 0, k => k
  | n + 1, m + 1, k => kx_eqN n m k
  | _, _, _ => False
theorem kx_eqN_d {k : Prop} : ∀ {a b : Nat}, kx_eqN a b k → a = b ∧ k := by
  intro a
  induction a with
  | zero => intro b h; cases b with
    | zero => exact ⟨rfl, h⟩
    | succ b => exact h.elim
  | succ a ih => intro b h; cases b with
    | zero => exact h.elim
    | succ b => exact ⟨congrArg (· + 1) (ih h).1, (ih h).2⟩
def kx_oF (o : Option kx_C) (c : Nat) (k : (Nat → Value) → Prop) : Prop := match o with | some (.inr (.inr (.inr (c', f)))) => kx_eqN c' c (k f) | _ => False
def kx_nil (r : List Value) (k : Prop) : Prop := match r with | [] => k | _ => False
theorem kx_nil_d {r : List Value} {k : Prop} (h : kx_nil r k) : r = [] ∧ k := by
  unfold kx_nil at h; split at h
  · exact ⟨rfl, h⟩
  · exact h.elim
def kx_c1 (v : Value) (k : Prop) : Prop := match v with | .long _ => False | .double _ => False | _ => k
theorem kx_c1_d {v : Value} {k : Prop} (h : kx_c1 v k) : v.category = 1 ∧ k := by
  cases v <;> first | exact ⟨rfl, h⟩ | exact h.elim
def kx_ln (o : Option kx_C) (k : Nat → Prop) : Prop := match o with | some (.inl (_, n, _)) => k n | some (.inr (.inl (n, _))) => k n | some (.inr (.inr (.inl (n, _)))) => k n | _ => False
def kx_set (P : kx_P) (a : Nat) (x : Option kx_C) : kx_P := fun n => if n = a then x else P n
/-- a value fits a field: 0 int, 1 long, 2 boolean, 3 a reference -/
def kx_fit (t : Nat) (v : Value) : Prop := match t with
  | 0 => (match v with | .int _ => True | _ => False)
  | 1 => (match v with | .long _ => True | _ => False)
  | 2 => (match v with | .int x => x = 0 ∨ x = 1 | _ => False)
  | _ => (match v with | .ref _ => True | .null => True | _ => False)
def kx_ft (t : Nat) (v : Value) (k : Prop) : Prop := match t, v with
  | 0, .int _ => k
  | 1, .long _ => k
  | 2, .int x => (x = 0 ∨ x = 1) ∧ k
  | 3, .ref _ => k
  | 3, .null => k
  | _, _ => False
theorem kx_ft_d {t : Nat} {v : Value} {k : Prop} (h : kx_ft t v k) : kx_fit t v ∧ k := by
  unfold kx_ft at h
  split at h <;> first | exact ⟨trivial, h⟩ | exact h | exact h.elim
def kx_tk (ty : FieldType) : Nat := match ty with
  | .int => 0 | .long => 1 | .boolean => 2 | .object _ => 3 | .array _ => 3 | _ => 9
def kx_dv (t : Nat) : Value := match t with
  | 0 => .int 0 | 1 => .long 0 | 2 => .int 0 | _ => .null
def kx_N (c : Nat) : Nat := (kx_cl.map (fun q => q.2.2)).getD c 0
def kx_df (c : Nat) : Nat → Value := fun j => kx_dv (kx_tk (kx_ty c j))
/-- instruction, three numbers, a value: what is resolved ahead -/
abbrev kx_O : Type := Instr × Nat × Nat × Nat × Value
def kx_cmp (o : Jvm.ClassFile.Cond) (x y : Int32) : Prop := match o with
  | .eq => x = y | .ne => ¬ x = y | .lt => x < y | .ge => y ≤ x | .gt => y < x | .le => x ≤ y

/-- one instruction: g is where a jump goes on, nx where the next one does, rt what a return must meet -/
def kx_step (g nx : kx_F) (rt : Option Value → kx_P → Nat → Prop) (mc ms : Nat) (o : kx_O) (pc : Nat) (ls : List (Option Value)) (st : List Value) (P : kx_P) (sz k n : Nat) : Prop :=
  match o with
  | (i, a, b, t, v) => match i with
    | .iconst _ => nx (pc + 1) ls (v :: st) P sz k n
    | .lconst _ => nx (pc + 1) ls (v :: st) P sz k n
    | .bipush _ => nx (pc + 2) ls (v :: st) P sz k n
    | .sipush _ => nx (pc + 3) ls (v :: st) P sz k n
    | .ldc _ => nx (pc + 2) ls (v :: st) P sz k n
    | .ldc_w _ => nx (pc + 3) ls (v :: st) P sz k n
    | .ldc2_w _ => nx (pc + 3) ls (v :: st) P sz k n
    | .aconst_null => nx (pc + 1) ls (.null :: st) P sz k n
    | .getstatic _ => nx (pc + 3) ls (v :: st) P sz k n
    | .iload_n _ => kx_lI ls a fun x => nx (pc + 1) ls (.int x :: st) P sz k n
    | .iload _ => kx_lI ls a fun x => nx (pc + 2) ls (.int x :: st) P sz k n
    | .lload_n _ => kx_lL ls a fun x => nx (pc + 1) ls (.long x :: st) P sz k n
    | .lload _ => kx_lL ls a fun x => nx (pc + 2) ls (.long x :: st) P sz k n
    | .aload_n _ => kx_lA ls a fun x => nx (pc + 1) ls (x :: st) P sz k n
    | .aload _ => kx_lA ls a fun x => nx (pc + 2) ls (x :: st) P sz k n
    | .istore_n _ => kx_pI st fun x r => kx_pl ls a (nx (pc + 1) (kx_s1 ls a (.int x)) r P sz k n)
    | .istore _ => kx_pI st fun x r => kx_pl ls a (nx (pc + 2) (kx_s1 ls a (.int x)) r P sz k n)
    | .lstore_n _ => kx_pL st fun x r => kx_pl ls (a + 1) (nx (pc + 1) (kx_s2 ls a (.long x)) r P sz k n)
    | .lstore _ => kx_pL st fun x r => kx_pl ls (a + 1) (nx (pc + 2) (kx_s2 ls a (.long x)) r P sz k n)
    | .astore_n _ => kx_pA st fun x r => kx_pl ls a (nx (pc + 1) (kx_s1 ls a x) r P sz k n)
    | .astore _ => kx_pA st fun x r => kx_pl ls a (nx (pc + 2) (kx_s1 ls a x) r P sz k n)
    | .iinc _ _ => kx_lI ls a fun x => kx_pl ls a (nx (pc + 3) (kx_s1 ls a (.int (x + (match v with | .int y => y | _ => 0)))) st P sz k n)
    | .iadd => kx_pI st fun y r => kx_pI r fun x r => nx (pc + 1) ls (.int (x + y) :: r) P sz k n
    | .isub => kx_pI st fun y r => kx_pI r fun x r => nx (pc + 1) ls (.int (x - y) :: r) P sz k n
    | .imul => kx_pI st fun y r => kx_pI r fun x r => nx (pc + 1) ls (.int (x * y) :: r) P sz k n
    | .iand => kx_pI st fun y r => kx_pI r fun x r => nx (pc + 1) ls (.int (x &&& y) :: r) P sz k n
    | .ior => kx_pI st fun y r => kx_pI r fun x r => nx (pc + 1) ls (.int (x ||| y) :: r) P sz k n
    | .ixor => kx_pI st fun y r => kx_pI r fun x r => nx (pc + 1) ls (.int (x ^^^ y) :: r) P sz k n
    | .idiv => kx_pI st fun y r => kx_pI r fun x r => ¬ y = 0 ∧ nx (pc + 1) ls (.int (x / y) :: r) P sz k n
    | .irem => kx_pI st fun y r => kx_pI r fun x r => ¬ y = 0 ∧ nx (pc + 1) ls (.int (x - x / y * y) :: r) P sz k n
    | .ineg => kx_pI st fun x r => nx (pc + 1) ls (.int (-x) :: r) P sz k n
    | .ishl => kx_pI st fun y r => kx_pI r fun x r => nx (pc + 1) ls (.int (x <<< (y &&& 31)) :: r) P sz k n
    | .ishr => kx_pI st fun y r => kx_pI r fun x r => nx (pc + 1) ls (.int (x >>> (y &&& 31)) :: r) P sz k n
    | .iushr => kx_pI st fun y r => kx_pI r fun x r => nx (pc + 1) ls (.int ((x.toUInt32 >>> (y.toUInt32 &&& Int32.toUInt32 31)).toInt32) :: r) P sz k n
    | .ladd => kx_pL st fun y r => kx_pL r fun x r => nx (pc + 1) ls (.long (x + y) :: r) P sz k n
    | .lsub => kx_pL st fun y r => kx_pL r fun x r => nx (pc + 1) ls (.long (x - y) :: r) P sz k n
    | .lmul => kx_pL st fun y r => kx_pL r fun x r => nx (pc + 1) ls (.long (x * y) :: r) P sz k n
    | .lor => kx_pL st fun y r => kx_pL r fun x r => nx (pc + 1) ls (.long (x ||| y) :: r) P sz k n
    | .ldiv => kx_pL st fun y r => kx_pL r fun x r => ¬ y = 0 ∧ nx (pc + 1) ls (.long (x / y) :: r) P sz k n
    | .lrem => kx_pL st fun y r => kx_pL r fun x r => ¬ y = 0 ∧ nx (pc + 1) ls (.long (x - x / y * y) :: r) P sz k n
    | .lneg => kx_pL st fun x r => nx (pc + 1) ls (.long (-x) :: r) P sz k n
    | .lshl => kx_pI st fun y r => kx_pL r fun x r => nx (pc + 1) ls (.long (x <<< (y.toInt64 &&& 63)) :: r) P sz k n
    | .lcmp => kx_pL st fun y r => kx_pL r fun x r => nx (pc + 1) ls (.int (lg_cmp x y) :: r) P sz k n
    | .i2l => kx_pI st fun x r => nx (pc + 1) ls (.long x.toInt64 :: r) P sz k n
    | .l2i => kx_pL st fun x r => nx (pc + 1) ls (.int x.toInt32 :: r) P sz k n
    | .dup => kx_pV st fun x r => kx_c1 x (nx (pc + 1) ls (x :: x :: r) P sz k n)
    | .dup2 => kx_pV st fun x r => kx_pV r fun y r => kx_c1 x (kx_c1 y (nx (pc + 1) ls (x :: y :: x :: y :: r) P sz k n))
    | .pop => kx_pV st fun x r => kx_c1 x (nx (pc + 1) ls r P sz k n)
    | .ifCond c _ => kx_pI st fun x r => (kx_cmp c x 0 → g a ls r P sz k n) ∧ (¬ kx_cmp c x 0 → g (pc + 3) ls r P sz k n)
    | .if_icmp c _ => kx_pI st fun y r => kx_pI r fun x r => (kx_cmp c x y → g a ls r P sz k n) ∧ (¬ kx_cmp c x y → g (pc + 3) ls r P sz k n)
    | .ifnull _ => kx_pA st fun x r => match x with | .null => g a ls r P sz k n | _ => g (pc + 3) ls r P sz k n
    | .ifnonnull _ => kx_pA st fun x r => match x with | .null => g (pc + 3) ls r P sz k n | _ => g a ls r P sz k n
    | .goto _ => g a ls st P sz k n
    | .tableswitch _ lo hi offs => kx_pI st fun x r => (x.toInt < lo ∨ hi < x.toInt → g a ls r P sz k n) ∧ ∀ (j w : Nat), x.toInt = lo + (j : Int) → (offs.map fun o => ((pc : Int) + o).toNat)[j]? = some w → g w ls r P sz k n
    | .getfield _ => kx_pR st fun q r => kx_oF (P q) a fun f => nx (pc + 3) ls (f b :: r) P sz k n
    | .putfield _ => kx_pV st fun x r => kx_pR r fun q r => kx_oF (P q) a fun f => 64 ≤ q ∧ kx_ft t x (nx (pc + 3) ls r (kx_set P q (kO a (va_up f b x))) sz k n)
    | .arraylength => kx_pR st fun q r => kx_ln (P q) fun w => nx (pc + 1) ls (.int (Int32.ofNat w) :: r) P sz k n
    | .iaload => kx_pI st fun i r => kx_pR r fun q r => kx_aI (P q) fun t w f => (match t with | 0 => vp_in i w ∧ nx (pc + 1) ls (.int (f i.toNatClampNeg) :: r) P sz k n | 5 => vp_in i w ∧ nx (pc + 1) ls (.int (f i.toNatClampNeg) :: r) P sz k n | _ => False)
    | .baload => kx_pI st fun i r => kx_pR r fun q r => kx_aI (P q) fun t w f => kx_eqN t 2 (vp_in i w ∧ nx (pc + 1) ls (.int (f i.toNatClampNeg) :: r) P sz k n)
    | .laload => kx_pI st fun i r => kx_pR r fun q r => kx_aL (P q) fun w f => vp_in i w ∧ nx (pc + 1) ls (.long (f i.toNatClampNeg) :: r) P sz k n
    | .aaload => kx_pI st fun i r => kx_pR r fun q r => kx_aR (P q) fun w f => vp_in i w ∧ nx (pc + 1) ls (va_rf (f i.toNatClampNeg) :: r) P sz k n
    | .iastore => kx_pI st fun x r => kx_pI r fun i r => kx_pR r fun q r => kx_aI (P q) fun t w f => kx_eqN t 0 (64 ≤ q ∧ vp_in i w ∧ nx (pc + 1) ls r (kx_set P q (kI 0 w (upd f i.toNatClampNeg x))) sz k n)
    | .bastore => kx_pI st fun x r => kx_pI r fun i r => kx_pR r fun q r => kx_aI (P q) fun t w f => kx_eqN t 2 (64 ≤ q ∧ vp_in i w ∧ nx (pc + 1) ls r (kx_set P q (kI 2 w (upd f i.toNatClampNeg (vp_nar .boolean x)))) sz k n)
    | .lastore => kx_pL st fun x r => kx_pI r fun i r => kx_pR r fun q r => kx_aL (P q) fun w f => 64 ≤ q ∧ vp_in i w ∧ nx (pc + 1) ls r (kx_set P q (kL w (vp_updL f i.toNatClampNeg x))) sz k n
    | .aastore => kx_pR st fun x r => kx_pI r fun i r => kx_pR r fun q r => kx_aR (P q) fun w f => 64 ≤ q ∧ vp_in i w ∧ kx_oF (P x) 1 fun _ => nx (pc + 1) ls r (kx_set P q (kR w (va_up f i.toNatClampNeg (some x)))) sz k n
    | .newarray _ => kx_pI st fun x r => ¬ x < 0 ∧ x.toNatClampNeg ≤ 1000000 ∧ k + 1 ≤ mc ∧ n + x.toNatClampNeg ≤ ms ∧ nx (pc + 2) ls (.ref sz :: r) (kx_set P sz (match a with | 1 => kL x.toNatClampNeg (fun _ => 0) | _ => kI a x.toNatClampNeg (fun _ => 0))) (sz + 1) (k + 1) (n + x.toNatClampNeg)
    | .anewarray _ => kx_pI st fun x r => ¬ x < 0 ∧ x.toNatClampNeg ≤ 1000000 ∧ k + 1 ≤ mc ∧ n + x.toNatClampNeg ≤ ms ∧ nx (pc + 3) ls (.ref sz :: r) (kx_set P sz (kR x.toNatClampNeg (fun _ => none))) (sz + 1) (k + 1) (n + x.toNatClampNeg)
    | .new _ => k + 1 ≤ mc ∧ n + kx_N a ≤ ms ∧ nx (pc + 3) ls (.ref sz :: st) (kx_set P sz (kO a (kx_df a))) (sz + 1) (k + 1) (n + kx_N a)
    | .invokespecial _ => kx_pR st fun _ r => kx_nil r (nx (pc + 3) ls r P sz k n)
    | .ireturn => kx_pI st fun x r => kx_nil r (rt (some (.int x)) P sz)
    | .lreturn => kx_pL st fun x r => kx_nil r (rt (some (.long x)) P sz)
    | .areturn => kx_pA st fun x r => kx_nil r (rt (some x) P sz)
    | .return_ => kx_nil st (rt none P sz)
    | _ => False
def kx_wp (g : kx_F) (rt : Option Value → kx_P → Nat → Prop) (mc ms : Nat) : List kx_O → kx_F
  | [] => g
  | o :: r => kx_step g (kx_wp g rt mc ms r) rt mc ms o
/-! what is resolved ahead is checked by program -/
/-- a class's links: its name, fields (pool place, class, field), numbers, statics, pool places of Object's constructor, of classes -/
abbrev kx_L : Type := String × List (Nat × Nat × Nat) × List (Nat × Value) × List (Nat × Value) × List Nat × List (Nat × Nat)
def kx_T (c : Nat) : u_T := (kx_cl.map (fun q => q.2.1)).getD c TX0
def kx_R (c : Nat) : String := (kx_cl.map (fun q => q.1)).getD c ""
def kx_cond (own : String) (q : Nat × Value) : Cond := match q.2 with
  | .int x => .constant own q.1 x
  | .long x => .constantLong own q.1 x
  | _ => .initialized own
def kx_stat (k : Nat) : String × String := if k = 1 then ("ClockKeeper$Almanac", "MONTH_DAYS") else ("ClockKeeper$Plan", "NOTES_FROM")
def kx_Lok (L : kx_L) : Prop :=
  (∀ q ∈ L.2.1, q.2.1 < 12 ∧ q.2.2 < kx_N q.2.1 ∧ Cond.fieldLink L.1 q.1 (kx_T q.2.1 q.2.2).1 (kx_T q.2.1 q.2.2).2.1 (kx_T q.2.1 q.2.2).2.2.1 ∈ kx_ws) ∧
  (∀ q ∈ L.2.2.1, (match q.2 with | .int _ => True | .long _ => True | _ => False) ∧ kx_cond L.1 q ∈ kx_ws) ∧
  (∀ q ∈ L.2.2.2.1, ∃ k, q.2 = .ref k ∧ (k = 1 ∨ k = 2) ∧ Cond.fieldLink L.1 q.1 (kx_stat k).1 (kx_stat k).2 "[I" ∈ kx_ws) ∧
  (∀ i ∈ L.2.2.2.2.1, Cond.methodLink L.1 i objectInit ∈ kx_ws) ∧
  (∀ q ∈ L.2.2.2.2.2, q.2 < 12 ∧ Cond.classLink L.1 q.1 (kx_R q.2) ∈ kx_ws)
def kx_len (i : Instr) : Nat := match i with
  | .bipush _ | .ldc _ | .iload _ | .lload _ | .aload _ | .istore _ | .lstore _ | .astore _ | .newarray _ => 2
  | .sipush _ | .ldc_w _ | .ldc2_w _ | .getstatic _ | .iinc _ _ | .ifCond _ _ | .if_icmp _ _ | .ifnull _ | .ifnonnull _ | .goto _ | .getfield _ | .putfield _ | .anewarray _ | .new _ | .invokespecial _ => 3
  | _ => 1
/-- ini: in a constructor -/
def kx_okO (L : kx_L) (ini : Bool) (pc : Nat) (o : kx_O) : Bool := match o with
  | (i, a, b, t, v) => match i with
    | .iconst z => decide (v = .int (Int32.ofInt z))
    | .lconst z => decide (v = .long (Int64.ofNat (z : Nat)))
    | .bipush z => decide (v = .int (Int8.ofInt z).toInt32)
    | .sipush z => decide (v = .int (Int16.ofInt z).toInt32)
    | .ldc j => decide ((j, v) ∈ L.2.2.1) && (match v with | .int _ => true | _ => false)
    | .ldc_w j => decide ((j, v) ∈ L.2.2.1) && (match v with | .int _ => true | _ => false)
    | .ldc2_w j => decide ((j, v) ∈ L.2.2.1) && (match v with | .long _ => true | _ => false)
    | .getstatic j => decide ((j, v) ∈ L.2.2.2.1)
    | .iload_n z | .lload_n z | .aload_n z | .istore_n z | .lstore_n z | .astore_n z => decide ((z : Nat) = a)
    | .iload z | .lload z | .aload z | .istore z | .lstore z | .astore z => decide (z = a)
    | .iinc z w => decide (z = a) && decide (v = .int (Int32.ofInt w))
    | .ifCond _ o | .if_icmp _ o | .ifnull o | .ifnonnull o | .goto o => decide ((pc : Int) + o = (a : Int))
    | .tableswitch d lo hi offs => decide ((pc : Int) + d = (a : Int)) && decide (lo ≤ hi) && decide ((hi - lo + 1).toNat = offs.size) && offs.all (fun o => decide (0 ≤ (pc : Int) + o))
    | .getfield j => decide ((j, a, b) ∈ L.2.1)
    | .putfield j => decide ((j, a, b) ∈ L.2.1) && decide (kx_tk (kx_ty a b) = t) && decide (t < 4) && (!(kx_T a b).2.2.2 || (ini && decide ((kx_T a b).1 = L.1)))
    | .newarray y => (decide (a = 0) && decide (y = .int)) || (decide (a = 1) && decide (y = .long)) || (decide (a = 2) && decide (y = .boolean))
    | .anewarray j => decide ((j, 1) ∈ L.2.2.2.2.2)
    | .new j => decide ((j, a) ∈ L.2.2.2.2.2)
    | .invokespecial j => decide (j ∈ L.2.2.2.2.1)
    | _ => true
def kx_oks (L : kx_L) (ini : Bool) (cc : ByteArray) : Nat → List kx_O → Bool
  | _, [] => true
  | pc, o :: r => decide (decode cc pc = .ok (o.1, match o.1 with | .tableswitch _ _ _ _ => o.2.2.1 | i => kx_len i)) && kx_okO L ini pc o && kx_oks L ini cc (pc + kx_len o.1) r

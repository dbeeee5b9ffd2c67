/-! CONTRACTS: a method, its arguments, a world: what comes back, and the world behind it -/
abbrev kx_S : Type := MethodName × ByteArray × Nat × Option FieldType
def kx_rm (d mc ms : Nat) : Room := { frames := d, cells := mc, slots := ms, locals := 64 * d + 64 }
def kx_Pc (G : kx_G) (As : List Value) (P : kx_P) (sz : Nat) : Array Value → State → Prop := fun a U => a = (As.map (kx_v G.2.1)).toArray ∧ kx_W G P sz U.heap ∧ kx_K G U
def kx_Qc (G : kx_G) (r : Option Value) (P' : kx_P) (sz' : Nat) : Array Value → State → Outcome → State → Prop := fun _ _ o t => o = .returned (r.map (kx_v G.2.1)) ∧ kx_W G P' sz' t.heap
abbrev kx_W0 (y : kx_S) : List Cond := Cond.code y.1 y.2.1 y.2.2.1 y.2.2.2 :: kx_ws
/-- y on As in the world P (next name sz) comes back with r, in the world P'; d frames, mc cells, ms slots at most -/
def kx_M (l : Launch) (G : kx_G) (y : kx_S) (d mc ms : Nat) (As : List Value) (P : kx_P) (sz : Nat) (r : Option Value) (P' : kx_P) (sz' : Nat) : Prop :=
  Met l y.1 (kx_W0 y) (kx_rm d mc ms) (kx_Pc G As P sz) (kx_Qc G r P' sz') mc ms (fun q => G.2.2.2.1.size ≤ q)
theorem kx_K.moved {G : kx_G} {u U : State} (hW : u.WarmedH U.vm) (h : kx_K G u) : kx_K G U := by
  obtain ⟨h1, h2, h3, h4, h5, h6, h7, h8⟩ := h
  refine ⟨va_K.moved hW.alike h1, h2, fun w hw => ?_, va_AO.moved hW.alike h4, fun n hn => ?_, va_Z.moved hW.alike h6, va_Z.moved hW.alike h7, kx_K3.moved hW h8.1, kx_K2.moved hW h8.2⟩
  · have hq := (List.mem_filter.mp hw).2
    cases w <;> first | exact va_Nw.warmM hW (h3 _ hw) | cases hq
  · obtain ⟨cell, c1, c2, c3⟩ := h5 n hn
    exact ⟨cell, c1, State.isArrayOf_alike hW.alike c2, c3⟩
theorem kx_K.same {G : kx_G} {u U : State} (hv : U.vm = u.vm) (h : kx_K G u) : kx_K G U := by
  refine kx_K.moved (u := u) ?_ h
  rw [hv]
  exact State.WarmedH.refl u
theorem kx_blind (G : kx_G) (As : List Value) (P : kx_P) (sz : Nat) : FrameBlind (kx_Pc G As P sz) := fun a U g mk h => ⟨h.1, h.2.1, kx_K.same (u := U) rfl h.2.2⟩
/-! a method's locals at its start -/
def kx_in : List Value → Nat → List (Option Value)
  | [], n => List.replicate n none
  | v :: r, n => if v.category = 2 then some v :: none :: kx_in r (n - 2) else some v :: kx_in r (n - 1)
theorem kx_gl_rep : ∀ (n i : Nat), kx_gl (List.replicate n none) i = none := by
  intro n
  induction n with
  | zero => intro i; rfl
  | succ n ih => intro i; cases i with
    | zero => rfl
    | succ i => exact ih i
theorem kx_in_args (ad : Nat → Nat) : ∀ (As : List Value) (n b i : Nat) (v : Value), kx_gl (kx_in As n) i = some v → (b + i, kx_v ad v) ∈ lv_args b (As.map (kx_v ad)) := by
  intro As
  induction As with
  | nil => intro n b i v h; rw [kx_in, kx_gl_rep] at h; cases h
  | cons a r ih =>
    intro n b i v h
    rw [kx_in] at h
    show _ ∈ (b, kx_v ad a) :: lv_args (if (kx_v ad a).category = 2 then b + 2 else b + 1) (r.map (kx_v ad))
    rw [kx_cat]
    split at h
    · rename_i hc
      rw [if_pos hc]
      cases i with
      | zero => cases h; exact List.mem_cons_self
      | succ i => cases i with
        | zero => cases h
        | succ i =>
          have := ih (n - 2) (b + 2) i v h
          rw [show b + (i + 1 + 1) = b + 2 + i by omega]
          exact List.mem_cons_of_mem _ this
    · rename_i hc
      rw [if_neg hc]
      cases i with
      | zero => cases h; exact List.mem_cons_self
      | succ i =>
        have := ih (n - 1) (b + 1) i v h
        rw [show b + (i + 1) = b + 1 + i by omega]
        exact List.mem_cons_of_mem _ this
theorem kx_in_sl (ad : Nat → Nat) : ∀ (As : List Value) (n : Nat), (kx_in As n).length = n → (lg_sl (As.map (kx_v ad))).length ≤ n := by
  intro As
  induction As with
  | nil => intro n _; exact Nat.zero_le _
  | cons a r ih =>
    intro n h
    rw [kx_in] at h
    show (lg_sl (kx_v ad a :: r.map (kx_v ad))).length ≤ n
    have e : lg_sl (kx_v ad a :: r.map (kx_v ad)) = (if (kx_v ad a).category = 2 then [Slot.val (kx_v ad a), .second] else [.val (kx_v ad a)]) ++ lg_sl (r.map (kx_v ad)) := rfl
    rw [e, kx_cat]
    split at h
    · rename_i hc
      rw [if_pos hc]
      simp only [List.length_cons] at h
      have := ih (n - 2) (by omega)
      simp only [List.length_append, List.length_cons, List.length_nil]
      omega
    · rename_i hc
      rw [if_neg hc]
      simp only [List.length_cons] at h
      have := ih (n - 1) (by omega)
      simp only [List.length_append, List.length_cons, List.length_nil]
      omega
/-- what comes back is of the method's type -/
def kx_rok (t : Option FieldType) (r : Option Value) : Prop := match t with
  | none => r = none
  | some .int => ∃ x, r = some (.int x)
  | some .boolean => r = some (.int 0) ∨ r = some (.int 1)
  | some .long => ∃ x, r = some (.long x)
  | some (.object _) => r = some .null ∨ ∃ q, r = some (.ref q)
  | _ => False
theorem kx_rok_i {t : Option FieldType} {x : Int32} (h : kx_rok t (some (.int x))) : t = some .int ∨ t = some .boolean ∧ (x = 0 ∨ x = 1) := by
  cases t with
  | none => simp [kx_rok] at h
  | some t => cases t <;> simp [kx_rok] at h ⊢ ; exact h
theorem kx_rok_l {t : Option FieldType} {x : Int64} (h : kx_rok t (some (.long x))) : t = some .long := by
  cases t with
  | none => simp [kx_rok] at h
  | some t => cases t <;> simp [kx_rok] at h ⊢
theorem kx_rok_v {t : Option FieldType} (h : kx_rok t none) : t = none := by
  cases t with
  | none => rfl
  | some t => cases t <;> simp [kx_rok] at h
theorem kx_rok_a {t : Option FieldType} {v : Value} (h : kx_rok t (some v)) (hv : v = .null ∨ ∃ q, v = .ref q) : ∃ C, t = some (.object C) := by
  cases t with
  | none => simp [kx_rok] at h
  | some t => rcases hv with rfl | ⟨q, rfl⟩ <;> cases t <;> simp [kx_rok] at h ⊢
/-- facts of the tables that every method uses -/
def kx_Tab : Prop := (∀ cx, cx < 12 → ∀ w ∈ u_ws (kx_R cx) (kx_T cx) (kx_N cx), w ∈ kx_ws) ∧ (Cond.instanceMethod objectInit ∈ kx_ws ∧ Cond.code objectInit ⟨#[0xb1]⟩ 1 none ∈ kx_ws) ∧ (Cond.arrayClass .int ∈ kx_ws ∧ Cond.arrayClass .long ∈ kx_ws ∧ Cond.arrayClass .boolean ∈ kx_ws) ∧ (∀ cx, cx < 12 → Cond.instantiable (kx_R cx) (kx_N cx) ∈ kx_ws ∧ Cond.initialized (kx_R cx) ∈ kx_ws)
section KXR
variable {p : Program} {l : Launch} {e : Env} {R : Room} {s : State} {m : MethodId} {args : Array Value} {below : List Frame} {meth : Method} {c : Code} {Q : State → Prop} {cc : ByteArray}
/-- the block rule -/
def kx_rB (L : kx_L) (ini : Bool) (cc : ByteArray) (mc ms : Nat) (rt : Option Value → kx_P → Nat → Prop) (g : kx_F) : Prop :=
  ∀ (ops : List kx_O) (pc : Nat) (ls : List (Option Value)) (st : List Value) (P : kx_P) (sz k n : Nat), kx_oks L ini cc pc ops = true → kx_wp g rt mc ms ops pc ls st P sz k n → g pc ls st P sz k n
theorem kx_blk {G : kx_G} {L : kx_L} {ini : Bool} {rt : Option Value → kx_P → Nat → Prop} (T0 : kx_Tab) (B : kx_B p s m args meth c R G L ini cc)
    (hret : ∀ (i : Instr) (vo : Option Value) (pc : Nat) (lsr : Array Slot) (H : Heap) (locs : List Loc) (P : kx_P) (sz k n : Nat), decode cc pc = .ok (i, 1) → (i = .ireturn ∧ (∃ x, vo = some (.int x)) ∨ i = .lreturn ∧ (∃ x, vo = some (.long x)) ∨ i = .areturn ∧ (vo = some .null ∨ ∃ q, vo = some (.ref q)) ∨ i = .return_ ∧ vo = none) → rt vo P sz → kx_W G P sz H → (∀ q ∈ locs, G.2.2.2.1.size ≤ q.base) → k ≤ R.cells → n ≤ R.slots → W p l e R s m args below meth c H locs k n Q (F0 m pc lsr (vo.toList.map (kx_v G.2.1)))) :
    kx_rB L ini cc R.cells R.slots rt (kx_g p l e R s m args below meth c Q G) := by
  intro ops
  induction ops with
  | nil => intro pc ls st P sz k n _ h; exact h
  | cons o r ih =>
    intro pc ls st P sz k n hok h
    simp only [kx_oks, Bool.and_eq_true, decide_eq_true_eq] at hok
    obtain ⟨⟨hd, ho⟩, hr⟩ := hok
    exact kx_step_ok T0.1 T0.2.1 T0.2.2.1 T0.2.2.2 B hret o pc ls st P sz k n hd ho (fun ls st P sz k n h => ih _ ls st P sz k n hr h) h
/-- a call's links: the method's own words, the call's -/
def kx_lV (own : String) (idx : Nat) (y : kx_S) (na : Nat) : Prop := Cond.methodLink own idx y.1 ∈ kx_ws ∧ Cond.instanceMethod y.1 ∈ kx_ws ∧ Cond.selects y.1.cls y.1 y.1 ∈ kx_ws ∧ Cond.code y.1 y.2.1 y.2.2.1 y.2.2.2 ∈ kx_ws ∧ Cond.initialized y.1.cls ∈ kx_ws ∧ y.1.cls ≠ "java/lang/invoke/MethodHandle" ∧ y.1.cls ≠ "java/lang/invoke/VarHandle" ∧ (parseMethodDescriptor y.1.desc).map (fun d => d.parameters.length) = some na
def kx_lS (own : String) (idx : Nat) (y : kx_S) (na : Nat) : Prop := Cond.methodLink own idx y.1 ∈ kx_ws ∧ Cond.static y.1 ∈ kx_ws ∧ Cond.code y.1 y.2.1 y.2.2.1 y.2.2.2 ∈ kx_ws ∧ Cond.initialized y.1.cls ∈ kx_ws ∧ y.1.cls ≠ "java/lang/invoke/MethodHandle" ∧ y.1.cls ≠ "java/lang/invoke/VarHandle" ∧ (parseMethodDescriptor y.1.desc).map (fun d => d.parameters.length) = some na
def kx_lI' (own : String) (idx : Nat) (y : kx_S) (na : Nat) : Prop := Cond.methodLink own idx y.1 ∈ kx_ws ∧ Cond.instanceMethod y.1 ∈ kx_ws ∧ Cond.code y.1 y.2.1 y.2.2.1 none ∈ kx_ws ∧ y.2.2.2 = none ∧ y.1.name = "<init>" ∧ Cond.initialized y.1.cls ∈ kx_ws ∧ y.1.cls ≠ "java/lang/invoke/MethodHandle" ∧ y.1.cls ≠ "java/lang/invoke/VarHandle" ∧ (parseMethodDescriptor y.1.desc).map (fun d => d.parameters.length) = some na
def kx_lN (own : String) (idx : Nat) (host : String) (y : kx_S) (na : Nat) : Prop := Cond.methodLinkNest own idx y.1 host ∈ kx_nw ∧ Cond.instanceMethod y.1 ∈ kx_ws ∧ Cond.code y.1 y.2.1 y.2.2.1 none ∈ kx_ws ∧ y.2.2.2 = none ∧ y.1.name = "<init>" ∧ Cond.initialized y.1.cls ∈ kx_ws ∧ y.1.cls ≠ "java/lang/invoke/MethodHandle" ∧ y.1.cls ≠ "java/lang/invoke/VarHandle" ∧ (parseMethodDescriptor y.1.desc).map (fun d => d.parameters.length) = some na
def kx_rC (l : Launch) (G : kx_G) (own : String) (cc : ByteArray) (d mc ms : Nat) (g : kx_F) : Prop :=
  (∀ (idx : Nat) (y : kx_S) (na d' mc' ms' : Nat) (As : List Value) (b ci : Nat) (f : Nat → Value) (st : List Value) (pc : Nat) (ls : List (Option Value)) (P : kx_P) (sz k n : Nat) (r : Option Value) (P' : kx_P) (sz' : Nat) (stk : List Value),
    kx_lV own idx y na → kx_M l G y d' mc' ms' (.ref b :: As) P sz r P' sz' → ci < 12 ∧ kx_R ci = y.1.cls → P b = kO ci f → stk = As.reverse ++ .ref b :: st → As.length = na → (st.map fun v => v.category).sum ≤ 8 → d' < d → y.2.2.1 ≤ 45 → k + mc' ≤ mc → n + ms' ≤ ms → decode cc pc = .ok (.invokevirtual idx, 3) → g (pc + 3) ls (r.toList ++ st) P' sz' (k + mc') (n + ms') → g pc ls stk P sz k n) ∧
  (∀ (idx : Nat) (y : kx_S) (na d' mc' ms' : Nat) (As : List Value) (st : List Value) (pc : Nat) (ls : List (Option Value)) (P : kx_P) (sz k n : Nat) (r : Option Value) (P' : kx_P) (sz' : Nat) (stk : List Value),
    kx_lS own idx y na → kx_M l G y d' mc' ms' As P sz r P' sz' → stk = As.reverse ++ st → As.length = na → (st.map fun v => v.category).sum ≤ 8 → d' < d → y.2.2.1 ≤ 45 → k + mc' ≤ mc → n + ms' ≤ ms → decode cc pc = .ok (.invokestatic idx, 3) → g (pc + 3) ls (r.toList ++ st) P' sz' (k + mc') (n + ms') → g pc ls stk P sz k n) ∧
  (∀ (idx : Nat) (y : kx_S) (na d' mc' ms' : Nat) (As : List Value) (b : Nat) (st : List Value) (pc : Nat) (ls : List (Option Value)) (P : kx_P) (sz k n : Nat) (P' : kx_P) (sz' : Nat) (stk : List Value),
    (kx_lI' own idx y na ∨ ∃ host, kx_lN own idx host y na) → kx_M l G y d' mc' ms' (.ref b :: As) P sz none P' sz' → stk = As.reverse ++ .ref b :: st → As.length = na → (st.map fun v => v.category).sum ≤ 8 → d' < d → y.2.2.1 ≤ 45 → k + mc' ≤ mc → n + ms' ≤ ms → decode cc pc = .ok (.invokespecial idx, 3) → g (pc + 3) ls st P' sz' (k + mc') (n + ms') → g pc ls stk P sz k n)
theorem kx_cats (ad : Nat → Nat) (st : List Value) : ((st.map (kx_v ad)).map fun v => v.category).sum = (st.map fun v => v.category).sum := by
  rw [List.map_map]
  congr 1
  exact List.map_congr_left fun v _ => kx_cat ad v
theorem kx_ow {y : kx_S} (hts : ∀ w ∈ kx_ws, w.before args s = true) (hc : Cond.code y.1 y.2.1 y.2.2.1 y.2.2.2 ∈ kx_ws) : GoodIn kx_ws (kx_W0 y) := fun w hw => by
  rcases List.mem_cons.mp hw with rfl | hw
  · exact kx_ws_good _ hc
  · exact kx_ws_good _ hw
/-- behind a call -/
theorem kx_aft {G : kx_G} {H : Heap} {locs : List Loc} {cells slots mc ms pc : Nat} {lsr : Array Slot} {st rest : List Value} {a : Array Value} {r : Option Value} {P' : kx_P} {sz' : Nat}
    (hr : va_Run p l e R s m args below meth c H locs cells slots mc ms (F0 m pc lsr st) rest (kx_Qc G r P' sz' a) (fun q => G.2.2.2.1.size ≤ q)) (hlo : ∀ q ∈ locs, G.2.2.2.1.size ≤ q.base)
    (kk : ∀ (H1 : Heap) (locs1 : List Loc), kx_W G P' sz' H1 → (∀ q ∈ locs1, G.2.2.2.1.size ≤ q.base) → W p l e R s m args below meth c H1 locs1 (cells + mc) (slots + ms) Q (F0 m (pc + 3) lsr ((r.map (kx_v G.2.1)).toList ++ rest))) : W p l e R s m args below meth c H locs cells slots Q (F0 m pc lsr st) := by
  intro T hT X
  obtain ⟨v, st₀, t, T', L, h0, X', hL, e1, e2, ⟨hq1, hq2⟩, stp⟩ := hr T hT X
  cases hq1
  obtain ⟨t2, a1, b1⟩ := kk T'.heap (locs ++ L) (by rw [e1]; exact hq2) (fun q hq => by
    rcases List.mem_append.mp hq with h | h
    · exact hlo q h
    · exact hL q h) T' rfl X'
  exact ⟨t2, stp t2 a1, b1⟩
theorem kx_call {G : kx_G} {L : kx_L} {ini : Bool} (B : kx_B p s m args meth c R G L ini cc) {d : Nat} (hRf : R.frames = d) (hRl : R.locals = 64 * d + 64) :
    kx_rC l G L.1 cc d R.cells R.slots (kx_g p l e R s m args below meth c Q G) := by
  obtain ⟨hexec, hb, hown, hts, hK, hL, hini, hR1, hR2⟩ := B
  refine ⟨?_, ?_, ?_⟩
  · intro idx y na d' mc' ms' As b ci f st pc ls P sz k n r P' sz' stk hl hM hci hPb hstk hlen hcat hdd hmx hk hn hd kk
    obtain ⟨l1, l2, l3, l4, l5, l6, l7, l8⟩ := hl
    intro lsr H locs hlen9 hls hW hlo hkc hks
    have cw : CallW R s args L.1 (kx_R ci) idx y.1 y.2.1 y.2.2.1 y.2.2.2 (kx_W0 y) (kx_rm d' mc' ms') mc' ms' na :=
      ⟨callB_of na hts (kx_ow hts l4) rfl rfl rfl (hts _ l5) (hts _ l1) ⟨l6, l7, l8⟩ ⟨by rw [hRf]; exact hdd, by rw [hRl]; show 8 + (y.2.2.1 + 11) + (64 * d' + 64) ≤ _; omega⟩, hts _ l2, by rw [hci.2]; exact hts _ l3⟩
    obtain ⟨r9, g0, cell, q1, q2, q3, -⟩ := hW.at hPb
    rw [kx_T_at hci.1] at g0
    cases g0
    have hrecv : ∃ cellB : Cell, H[G.2.1 b]? = some cellB ∧ cellB.vm.isStatics = false ∧ s.vm.findClass (kx_R ci) = some cellB.cls := ⟨cell, q1, by rw [q3]; rfl, by rw [q2]; exact (hK.1.1 ci _ (kx_T_at hci.1)).2.1⟩
    refine kx_aft (va_runV (As := As.map (kx_v G.2.1)) (rest := st.map (kx_v G.2.1)) ⟨hexec, hb, hlen9.symm, hown, hts⟩ hM cw ⟨kx_blind _ _ _ _, hrecv, fun U hU hWm => ⟨rfl, by rw [hU]; exact hW, kx_K.moved hWm hK⟩⟩ rfl (by rw [List.length_map]; exact hlen) hls.1 (by rw [hstk]; simp [kx_v]) (lv_room (by rw [kx_cats]; exact hcat)) hd ⟨hk, hn⟩) hlo fun H1 locs1 hW1 hl1 => ?_
    have := kk lsr H1 locs1 hlen9 hls hW1 hl1 hk hn
    cases r <;> simpa using this
  · intro idx y na d' mc' ms' As st pc ls P sz k n r P' sz' stk hl hM hstk hlen hcat hdd hmx hk hn hd kk
    obtain ⟨l1, l2, l4, l5, l6, l7, l8⟩ := hl
    intro lsr H locs hlen9 hls hW hlo hkc hks
    have cw : CallB R s args L.1 idx y.1 y.2.1 y.2.2.1 y.2.2.2 (kx_W0 y) (kx_rm d' mc' ms') mc' ms' na ∧ (Cond.static y.1).before args s = true :=
      ⟨callB_of na hts (kx_ow hts l4) rfl rfl rfl (hts _ l5) (hts _ l1) ⟨l6, l7, l8⟩ ⟨by rw [hRf]; exact hdd, by rw [hRl]; show 8 + (y.2.2.1 + 11) + (64 * d' + 64) ≤ _; omega⟩, hts _ l2⟩
    refine kx_aft (va_runS (As := As.map (kx_v G.2.1)) (rest := st.map (kx_v G.2.1)) ⟨hexec, hb, hlen9.symm, hown, hts⟩ hM cw ⟨kx_blind _ _ _ _, fun U hU hWm => ⟨rfl, by rw [hU]; exact hW, kx_K.moved hWm hK⟩⟩ rfl (by rw [List.length_map]; exact hlen) hls.1 (by rw [hstk]; simp) (lv_room (by rw [kx_cats]; exact hcat)) hd ⟨hk, hn⟩) hlo fun H1 locs1 hW1 hl1 => ?_
    have := kk lsr H1 locs1 hlen9 hls hW1 hl1 hk hn
    cases r <;> simpa using this
  · intro idx y na d' mc' ms' As b st pc ls P sz k n P' sz' stk hl hM hstk hlen hcat hdd hmx hk hn hd kk
    intro lsr H locs hlen9 hls hW hlo hkc hks
    rcases hl with ⟨l1, l2, l4, l0, l3, l5, l6, l7, l8⟩ | ⟨host, l1, l2, l4, l0, l3, l5, l6, l7, l8⟩
    · have cw : CallB R s args L.1 idx y.1 y.2.1 y.2.2.1 none (kx_W0 y) (kx_rm d' mc' ms') mc' ms' na ∧ y.1.name = "<init>" ∧ (Cond.instanceMethod y.1).before args s = true :=
        ⟨callB_of na hts (kx_ow hts (by rw [l0]; exact l4)) (by rw [← l0]) rfl rfl (hts _ l5) (hts _ l1) ⟨l6, l7, l8⟩ ⟨by rw [hRf]; exact hdd, by rw [hRl]; show 8 + (y.2.2.1 + 11) + (64 * d' + 64) ≤ _; omega⟩, l3, hts _ l2⟩
      refine kx_aft (va_runI (b := G.2.1 b) (As := As.map (kx_v G.2.1)) (rest := st.map (kx_v G.2.1)) ⟨hexec, hb, hlen9.symm, hown, hts⟩ hM cw ⟨kx_blind _ _ _ _, fun U hU hWm => ⟨rfl, by rw [hU]; exact hW, kx_K.moved hWm hK⟩⟩ rfl (by rw [List.length_map]; exact hlen) hls.1 (by rw [hstk]; simp [kx_v]) (lv_room (by rw [kx_cats]; exact hcat)) hd ⟨hk, hn⟩) hlo fun H1 locs1 hW1 hl1 => ?_
      exact kk lsr H1 locs1 hlen9 hls hW1 hl1 hk hn
    · have cw : va_CN R s args L.1 idx y.1 host y.2.1 y.2.2.1 none (kx_W0 y) (kx_rm d' mc' ms') mc' ms' na ∧ y.1.name = "<init>" ∧ (Cond.instanceMethod y.1).before args s = true :=
        ⟨va_cnB na hts (kx_ow hts (by rw [l0]; exact l4)) (by rw [← l0]) rfl rfl (hK.2.2.1 _ l1) (hts _ l5) ⟨l6, l7, l8⟩ ⟨by rw [hRf]; exact hdd, by rw [hRl]; show 8 + (y.2.2.1 + 11) + (64 * d' + 64) ≤ _; omega⟩, l3, hts _ l2⟩
      refine kx_aft (va_runIN (b := G.2.1 b) (As := As.map (kx_v G.2.1)) (rest := st.map (kx_v G.2.1)) ⟨hexec, hb, hlen9.symm, hown, hts⟩ hM cw ⟨kx_blind _ _ _ _, fun U hU hWm => ⟨rfl, by rw [hU]; exact hW, kx_K.moved hWm hK⟩⟩ rfl (by rw [List.length_map]; exact hlen) hls.1 (by rw [hstk]; simp [kx_v]) (lv_room (by rw [kx_cats]; exact hcat)) hd ⟨hk, hn⟩) hlo fun H1 locs1 hW1 hl1 => ?_
      exact kk lsr H1 locs1 hlen9 hls hW1 hl1 hk hn
end KXR
/-- a method by its body: g is any predicate that keeps the rules; the world behind it is P' -/
theorem kx_mk {l : Launch} {G : kx_G} {y : kx_S} {L : kx_L} {ini : Bool} {d mc ms : Nat} {As : List Value} {P : kx_P} {sz : Nat} {r : Option Value} {P' : kx_P} {sz' : Nat} (T0 : kx_Tab) (hL : kx_Lok L) (ls0 : List (Option Value))
    (hy : plainName y.1.cls = true ∧ y.1.cls = L.1 ∧ (ini = true → y.1.name = "<init>") ∧ 1 ≤ d) (hr : kx_rok y.2.2.2 r) (hin : kx_in As y.2.2.1 = ls0) (hlen : ls0.length = y.2.2.1)
    (body : ∀ g : kx_F, kx_rB L ini y.2.1 mc ms (fun r2 P2 s2 => r2 = r ∧ P2 = P' ∧ s2 = sz') g → kx_rC l G L.1 y.2.1 d mc ms g → g 0 ls0 [] P sz 0 0) : kx_M l G y d mc ms As P sz r P' sz' := by
  obtain ⟨hy1, hy2, hy3, hd⟩ := hy
  refine Met.ofW (cc := y.2.1) (maxL := y.2.2.1) (ret := y.2.2.2) hy1 rfl ?_
  intro p e s m args below meth c s₁ B hml hv
  obtain ⟨rfl, hW, hK⟩ := hv
  have hts := atoms_spec (ws := kx_W0 y) B.pre
  have hown : s.vm.findClass L.1 = some m.cls := by rw [← hy2]; exact findClass_of_methodNamed B.named
  have hB : kx_B p s m (As.map (kx_v G.2.1)).toArray meth c (kx_rm d mc ms) G L ini y.2.1 :=
    ⟨B.exec, B.bytes, hown, fun w hw => hts w (List.mem_cons_of_mem _ hw), hK, hL, fun h => by rw [← hy3 h]; exact (name_of_methodNamed B.named B.method).1, hd, by show 12 ≤ 64 * d + 64; omega⟩
  have hlocks := B.notSynchronized
  have hrt := B.returns
  have key := body (kx_g p l e (kx_rm d mc ms) s m (As.map (kx_v G.2.1)).toArray below meth c (MQ below (kx_Qc G r P' sz') (As.map (kx_v G.2.1)).toArray s mc ms (fun q => G.2.2.2.1.size ≤ q)) G)
    (kx_blk T0 hB ?_) (kx_call hB rfl rfl)
  · rw [lg_entry_eq]
    have hl := lv_entry (As.map (kx_v G.2.1)) (n := y.2.2.1) (kx_in_sl _ _ _ (by rw [hin]; exact hlen))
    refine key _ s.heap [] (hlen.trans hml.symm) ⟨hl.1.trans hlen.symm, hl.2.1, fun i v hi => ?_⟩ hW (fun q hq => by cases hq) (Nat.zero_le _) (Nat.zero_le _)
    rw [← hin] at hi
    have := kx_in_args G.2.1 As _ 0 i v hi
    rw [Nat.zero_add] at this
    exact hl.2.2 _ this
  · intro i vo pc lsr H locs P2 s2 k n hd9 hi hq hW2 hlo hk hn
    obtain ⟨rfl, rfl, rfl⟩ := hq
    refine W.widen hk hn ?_
    show W p l e (kx_rm d mc ms) s m _ below meth c H locs mc ms _ _
    rcases hi with ⟨rfl, x, rfl⟩ | ⟨rfl, x, rfl⟩ | ⟨rfl, hx⟩ | ⟨rfl, rfl⟩
    · rcases kx_rok_i hr with h9 | ⟨h9, rfl | rfl⟩
      · rw [h9] at hrt
        exact W.iret B.exec B.bytes hrt (fun t ht hWm => ⟨rfl, by rw [ht]; exact hW2⟩) hlo hd9 hlocks
      · rw [h9] at hrt
        exact W.zret B.exec B.bytes hrt rfl (fun t ht hWm => ⟨rfl, by rw [ht]; exact hW2⟩) hlo hd9 hlocks
      · rw [h9] at hrt
        exact W.zret B.exec B.bytes hrt rfl (fun t ht hWm => ⟨rfl, by rw [ht]; exact hW2⟩) hlo hd9 hlocks
    · rw [kx_rok_l hr] at hrt
      exact W.lret B.exec B.bytes hrt (fun t ht hWm => ⟨rfl, by rw [ht]; exact hW2⟩) hlo hd9 hlocks
    · rcases hx with rfl | ⟨q, rfl⟩
      · obtain ⟨C, h9⟩ := kx_rok_a hr (Or.inl rfl)
        rw [h9] at hrt
        exact W.aret B.exec B.bytes hrt (Or.inl ⟨_, rfl⟩) (Or.inl rfl) (fun t ht hWm => ⟨rfl, by rw [ht]; exact hW2⟩) hlo hd9 hlocks
      · obtain ⟨C, h9⟩ := kx_rok_a hr (Or.inr ⟨q, rfl⟩)
        rw [h9] at hrt
        exact W.aret B.exec B.bytes hrt (Or.inl ⟨_, rfl⟩) (Or.inr ⟨_, rfl⟩) (fun t ht hWm => ⟨rfl, by rw [ht]; exact hW2⟩) hlo hd9 hlocks
    · rw [kx_rok_v hr] at hrt
      exact W.vret B.exec B.bytes hrt (fun t ht hWm => ⟨rfl, by rw [ht]; exact hW2⟩) hlo hd9 hlocks

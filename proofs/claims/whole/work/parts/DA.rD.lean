/-! THE LAW'S OWN METHODS: what catches, and what calls what catches -/
abbrev kx_W9 (y : kx_S) (hh : List (Nat × Nat × Nat × Nat)) : List Cond := Cond.codeWith y.1 y.2.1 y.2.2.1 y.2.2.2 hh :: kx_ws
/-- y, with the handlers hh, on As in the world P comes back; what comes back keeps Po -/
def kx_Mw (l : Launch) (G : kx_G) (y : kx_S) (hh : List (Nat × Nat × Nat × Nat)) (d mc ms : Nat) (As : List Value) (P : kx_P) (sz : Nat) (Po : Option Value → kx_P → Nat → Prop) : Prop :=
  vx_Met l y.1 (kx_W9 y hh) (kx_rm d mc ms) (kx_Pc G As P sz) (kx_Qn G Po) (fun _ _ _ => False) mc ms (fun q => G.2.2.2.1.size ≤ q)
/-- a call that throws, caught by the row x -/
def kx_rK (l : Launch) (G : kx_G) (own : String) (cc : ByteArray) (hh : List (Nat × Nat × Nat × Nat)) (d mc ms : Nat) (Po : Option Value → kx_P → Nat → Prop) (g : kx_F) : Prop :=
  ∀ (idx : Nat) (y : kx_S) (na d' : Nat) (As : List Value) (b ci : Nat) (f : Nat → Value) (st : List Value) (pc : Nat) (ls : List (Option Value)) (P : kx_P) (sz : Nat) (stk : List Value) (E : String) (pre suf : List (Nat × Nat × Nat × Nat)) (x : Nat × Nat × Nat × Nat) (hl : Nat) (z : Int),
    kx_lV own idx y na → kx_X l G y d' (.ref b :: As) P sz E → ci < 12 ∧ kx_R ci = y.1.cls → P b = kO ci f → stk = As.reverse ++ .ref b :: st → As.length = na → (st.map fun v => v.category).sum ≤ 8 → d' < d → y.2.2.1 ≤ 45 → 1 ≤ mc → 6 ≤ ms → decode cc pc = .ok (.invokevirtual idx, 3) →
    hh = pre ++ x :: suf → E ∈ kx_cs → (x.1 ≤ pc ∧ pc < x.2.1) → ¬ x.2.2.2 = 0 → Cond.classLink own x.2.2.2 E ∈ kx_ws → (∀ q ∈ pre, ¬ q.2.2.2 = 0 ∧ ∃ nm, Cond.classLink own q.2.2.2 nm ∈ kx_ws ∧ (E, nm) ∈ kx_nc) →
    ((∃ k : Fin 4, decode cc x.2.2.1 = .ok (.astore_n k, 1) ∧ (k : Nat) < ls.length ∧ hl = 1) ∨ (∃ i, decode cc x.2.2.1 = .ok (.astore i, 2) ∧ i < ls.length ∧ hl = 2)) → decode cc (x.2.2.1 + hl) = .ok (.iconst z, 1) → decode cc (x.2.2.1 + hl + 1) = .ok (.ireturn, 1) →
    (∀ s2, sz ≤ s2 → Po (some (.int (Int32.ofInt z))) P s2) → g pc ls stk P sz 0 0
section KXW
variable {p : Program} {l : Launch} {e : Env} {R : Room} {s : State} {m : MethodId} {args : Array Value} {below : List Frame} {meth : Method} {c : Code} {cc : ByteArray}
theorem kx_callk {G : kx_G} {L : kx_L} {ini : Bool} {Po : Option Value → kx_P → Nat → Prop} {hh : List (Nat × Nat × Nat × Nat)} (B : kx_B p s m args meth c R G L ini cc) {d : Nat} (hRf : R.frames = d) (hRl : R.locals = 64 * d + 64) (htab : c.exceptionTable.toList = tableOf hh) (hlocks : meth.locks = false) (hrt : meth.sig.returnType = some .int) :
    kx_rK l G L.1 cc hh d R.cells R.slots Po (kx_g p l e R s m args below meth c (vx_MQ below (kx_Qn G Po) (fun _ _ _ => False) args s R.cells R.slots (fun q => G.2.2.2.1.size ≤ q)) G) := by
  obtain ⟨hexec, hb, hown, hts, hK, hL, hini, hR1, hR2⟩ := B
  intro idx y na d' As b ci f st pc ls P sz stk E pre suf x hl z hlk hM hci hPb hstk hlen hcat hdd hmx hmc hms hd hsplit hE hcov hx0 hxl hpre hst hd2 hd3 hPo
  obtain ⟨l1, l2, l3, l4, l5, l6, l7, l8⟩ := hlk
  intro lsr H locs hlen9 hls hW hlo hkc hks
  have cw : CallW R s args L.1 (kx_R ci) idx y.1 y.2.1 y.2.2.1 y.2.2.2 (kx_W0 y) (kx_rm d' 1 6) 1 6 na :=
    ⟨callB_of na hts (kx_ow hts l4) rfl rfl rfl (hts _ l5) (hts _ l1) ⟨l6, l7, l8⟩ ⟨by rw [hRf]; exact hdd, by rw [hRl]; show 8 + (y.2.2.1 + 11) + (64 * d' + 64) ≤ _; omega⟩, hts _ l2, by rw [hci.2]; exact hts _ l3⟩
  obtain ⟨r9, g0, cell, q1, q2, q3, -⟩ := hW.at hPb
  rw [kx_T_at hci.1] at g0
  cases g0
  have hrecv : ∃ cellB : Cell, H[G.2.1 b]? = some cellB ∧ cellB.vm.isStatics = false ∧ s.vm.findClass (kx_R ci) = some cellB.cls := ⟨cell, q1, by rw [q3]; rfl, by rw [q2]; exact (hK.1.1 ci _ (kx_T_at hci.1)).2.1⟩
  have run := vx_runV (As := As.map (kx_v G.2.1)) (rest := st.map (kx_v G.2.1)) (locs := locs) (cells := 0) (slots := 0) (e := e) (below := below) (meth := meth) (g := F0 m pc lsr (stk.map (kx_v G.2.1))) ⟨hexec, hb, hlen9.symm, hown, hts⟩ hM cw ⟨kx_blind _ _ _ _, hrecv, fun U hU hWm => ⟨rfl, by rw [hU]; exact hW, kx_K.moved hWm hK⟩⟩ rfl (by rw [List.length_map]; exact hlen) hls.1 (by rw [hstk]; simp [kx_v]) (lv_room (by rw [kx_cats]; exact hcat)) hd ⟨by omega, by omega⟩
  intro T hT X
  rcases run T hT X with ⟨v, st0, t, T', L', h0, X', hL', e1, e2, hq, stp⟩ | ⟨q, st0, t, T', L', E', ce, h0, X', hL', e1, e2, ⟨rfl, s2, hs2, hW2⟩, hce, hcv, hcl, stp⟩
  · exact hq.elim
  · have hlo' : ∀ w ∈ locs ++ L', G.2.2.2.1.size ≤ w.base := fun w hw => by
      rcases List.mem_append.mp hw with h | h
      · exact hlo w h
      · exact hL' w h
    have htb : c.exceptionTable.toList = tableOf pre ++ (⟨x.1, x.2.1, x.2.2.1, x.2.2.2⟩ : ExceptionTableEntry) :: tableOf suf := by
      rw [htab, hsplit]
      unfold tableOf
      rw [List.map_append, List.map_cons]
    have fin : ∀ (ls' : Array Slot), W p l e R s m args below meth c T'.heap (locs ++ L') (0 + 1) (0 + 6) (vx_MQ below (kx_Qn G Po) (fun _ _ _ => False) args s R.cells R.slots (fun q => G.2.2.2.1.size ≤ q)) (F0 m (x.2.2.1 + hl) ls' []) := fun ls' => by
      refine lv_iconst hexec hb hd2 rfl ?_
      refine W.widen (k := R.cells) (n := R.slots) (by omega) (by omega) ?_
      exact vx_ret (W.iret hexec hb hrt (fun t9 ht9 hWm => ⟨_, P, s2, hPo s2 hs2, rfl, by rw [ht9, e1]; exact hW2⟩) hlo' hd3 hlocks)
    have hc9 := vx_catch (p := p) (l := l) (e := e) (R := R) (below := below) (meth := meth) (args := args) (name := E') (E := E') (ce := ce) (q := q) (pc := pc) (ls := lsr) (rest := st.map (kx_v G.2.1)) (H := T'.heap) (locs := locs ++ L') (cells := 0 + 1) (slots := 0 + 6) (Q := vx_MQ below (kx_Qn G Po) (fun _ _ _ => False) args s R.cells R.slots (fun q => G.2.2.2.1.size ≤ q)) hown (tableOf pre) ⟨x.1, x.2.1, x.2.2.1, x.2.2.2⟩ (tableOf suf) htb (fun w hw => by
        unfold tableOf at hw
        obtain ⟨u, hu, rfl⟩ := List.mem_map.mp hw
        obtain ⟨u0, nm, u1, u2⟩ := hpre u hu
        exact Or.inr ⟨u0, nm, hts _ u1, hK.2.2.2.2.2.2.2.1.2.2 _ u2⟩) (by simp [covers, hcov.1, hcov.2]) hx0 (hts _ hxl) (va_Nw.use rfl (hK.2.2.2.2.2.2.2.1.1 E' hE)) (by rw [e1]; exact hce) hcv hcl (by
        rcases hst with ⟨k, k1, k2, rfl⟩ | ⟨i, k1, k2, rfl⟩
        · exact lv_astore_n hexec hb k1 rfl (kx_ls_has hls) k2 rfl (fun ls' _ => fin ls')
        · exact lv_astore hexec hb k1 (kx_ls_has hls) k2 rfl (fun ls' _ => fin ls'))
    obtain ⟨t2, a1, b1⟩ := hc9 T' rfl X'
    exact ⟨t2, stp.trans a1, b1⟩
end KXW
/-- a method that catches, by its body -/
theorem kx_mkw {l : Launch} {G : kx_G} {y : kx_S} {hh : List (Nat × Nat × Nat × Nat)} {L : kx_L} {d mc ms : Nat} {As : List Value} {P : kx_P} {sz : Nat} {Po : Option Value → kx_P → Nat → Prop} (T0 : kx_Tab) (hL : kx_Lok L) (ls0 : List (Option Value))
    (hy : plainName y.1.cls = true ∧ y.1.cls = L.1 ∧ 1 ≤ d) (hrt9 : y.2.2.2 = some .int) (hr9 : ∀ r P' sz', Po r P' sz' → ∃ x, r = some (.int x)) (hin : kx_in As y.2.2.1 = ls0) (hlen : ls0.length = y.2.2.1)
    (body : ∀ g : kx_F, kx_rB L false y.2.1 mc ms Po g → kx_rC l G L.1 y.2.1 d mc ms g → kx_rN l G L.1 y.2.1 d mc ms g → kx_rK l G L.1 y.2.1 hh d mc ms Po g → g 0 ls0 [] P sz 0 0) : kx_Mw l G y hh d mc ms As P sz Po := by
  obtain ⟨hy1, hy2, hd⟩ := hy
  refine vx_ofWH (cc := y.2.1) (maxL := y.2.2.1) (ret := y.2.2.2) (hh := hh) hy1 rfl ?_
  intro p e s m args below meth c s₁ B hml hv
  obtain ⟨rfl, hW, hK⟩ := hv
  have hts := atoms_spec (ws := kx_W9 y hh) B.pre
  have hown : s.vm.findClass L.1 = some m.cls := by rw [← hy2]; exact findClass_of_methodNamed B.named
  have hB : kx_B p s m (As.map (kx_v G.2.1)).toArray meth c (kx_rm d mc ms) G L false y.2.1 :=
    ⟨B.exec, B.bytes, hown, fun w hw => hts w (List.mem_cons_of_mem _ hw), hK, hL, (fun h => by cases h), hd, by show 12 ≤ 64 * d + 64; omega⟩
  have hlocks := B.notSynchronized
  have hrt : meth.sig.returnType = some .int := by rw [← hrt9]; exact B.returns
  have htab := vx_table (x := y.1) B (hts _ List.mem_cons_self)
  have key := body (kx_g p l e (kx_rm d mc ms) s m (As.map (kx_v G.2.1)).toArray below meth c (vx_MQ below (kx_Qn G Po) (fun _ _ _ => False) (As.map (kx_v G.2.1)).toArray s mc ms (fun q => G.2.2.2.1.size ≤ q)) G)
    (kx_blk T0 hB ?_) (kx_call hB rfl rfl) (kx_calln hB rfl rfl) (kx_callk hB rfl rfl htab hlocks hrt)
  · rw [lg_entry_eq]
    have hl := lv_entry (As.map (kx_v G.2.1)) (n := y.2.2.1) (kx_in_sl _ _ _ (by rw [hin]; exact hlen))
    refine key _ s.heap [] (hlen.trans hml.symm) ⟨hl.1.trans hlen.symm, hl.2.1, fun i v hi => ?_⟩ hW (fun q hq => by cases hq) (Nat.zero_le _) (Nat.zero_le _)
    rw [← hin] at hi
    have := kx_in_args G.2.1 As _ 0 i v hi
    rw [Nat.zero_add] at this
    exact hl.2.2 _ this
  · intro i vo pc lsr H locs P2 s2 k n hd9 hi hq hW2 hlo hk hn
    obtain ⟨x, rfl⟩ := hr9 _ _ _ hq
    have hdi : decode y.2.1 pc = .ok (.ireturn, 1) := by
      rcases hi with ⟨rfl, -⟩ | ⟨-, x2, h⟩ | ⟨-, h⟩ | ⟨-, h⟩
      · exact hd9
      · cases h
      · rcases h with h | ⟨q, h⟩ <;> cases h
      · cases h
    refine W.widen hk hn ?_
    exact vx_ret (W.iret B.exec B.bytes hrt (fun t ht hWm => ⟨_, P2, s2, hq, rfl, by rw [ht]; exact hW2⟩) hlo hdi hlocks)
/-- a static call's links, of a method that catches -/
def kx_lS9 (own : String) (idx : Nat) (y : kx_S) (hh : List (Nat × Nat × Nat × Nat)) (na : Nat) : Prop := Cond.methodLink own idx y.1 ∈ kx_ws ∧ Cond.static y.1 ∈ kx_ws ∧ Cond.codeWith y.1 y.2.1 y.2.2.1 y.2.2.2 hh ∈ kx_ws ∧ Cond.initialized y.1.cls ∈ kx_ws ∧ y.1.cls ≠ "java/lang/invoke/MethodHandle" ∧ y.1.cls ≠ "java/lang/invoke/VarHandle" ∧ (parseMethodDescriptor y.1.desc).map (fun d => d.parameters.length) = some na
def kx_rW (l : Launch) (G : kx_G) (own : String) (cc : ByteArray) (d mc ms : Nat) (g : kx_F) : Prop :=
  ∀ (idx : Nat) (y : kx_S) (hh : List (Nat × Nat × Nat × Nat)) (na d' mc' ms' : Nat) (As : List Value) (st : List Value) (pc : Nat) (ls : List (Option Value)) (P : kx_P) (sz k n : Nat) (Po : Option Value → kx_P → Nat → Prop) (stk : List Value),
    kx_lS9 own idx y hh na → kx_Mw l G y hh d' mc' ms' As P sz Po → stk = As.reverse ++ st → As.length = na → (st.map fun v => v.category).sum ≤ 8 → d' < d → y.2.2.1 ≤ 45 → k + mc' ≤ mc → n + ms' ≤ ms → decode cc pc = .ok (.invokestatic idx, 3) → (∀ r P' sz', Po r P' sz' → g (pc + 3) ls (r.toList ++ st) P' sz' (k + mc') (n + ms')) → g pc ls stk P sz k n
section KXL
variable {p : Program} {l : Launch} {e : Env} {R : Room} {s : State} {m : MethodId} {args : Array Value} {below : List Frame} {meth : Method} {c : Code} {Q : State → Prop} {cc : ByteArray}
theorem kx_callw {G : kx_G} {L : kx_L} {ini : Bool} (B : kx_B p s m args meth c R G L ini cc) {d : Nat} (hRf : d ≤ R.frames) (hRl : 64 * d + 64 ≤ R.locals) :
    kx_rW l G L.1 cc d R.cells R.slots (kx_g p l e R s m args below meth c Q G) := by
  obtain ⟨hexec, hb, hown, hts, hK, hL, hini, hR1, hR2⟩ := B
  intro idx y hh na d' mc' ms' As st pc ls P sz k n Po stk hl hM hstk hlen hcat hdd hmx hk hn hd kk
  obtain ⟨l1, l2, l4, l5, l6, l7, l8⟩ := hl
  intro lsr H locs hlen9 hls hW hlo hkc hks
  have hG9 : GoodIn kx_ws (kx_W9 y hh) := fun w hw => by
    rcases List.mem_cons.mp hw with rfl | hw
    · exact kx_ws_good _ l4
    · exact kx_ws_good _ hw
  have cw : vx_CSW R s args L.1 idx y.1 y.2.1 y.2.2.1 y.2.2.2 hh (kx_W9 y hh) (kx_rm d' mc' ms') mc' ms' na := by
    refine ⟨⟨rfl, rfl, ?_, ?_, pay_in hts hG9, List.mem_cons_self⟩, hts _ l4, hts _ l5, ⟨l6, l7⟩, fun sig h => ?_, hts _ l1, hts _ l2⟩
    · show d' + 1 ≤ R.frames
      omega
    · show 8 + (y.2.2.1 + 11) + (64 * d' + 64) ≤ R.locals
      omega
    · rw [h] at l8
      exact (Option.some.inj l8).symm
  intro T hT X
  rcases vx_runSX (As := As.map (kx_v G.2.1)) (rest := st.map (kx_v G.2.1)) (locs := locs) (cells := k) (slots := n) (e := e) (below := below) (meth := meth) (g := F0 m pc lsr (stk.map (kx_v G.2.1))) ⟨hexec, hb, hlen9.symm, hown, hts⟩ hM cw ⟨kx_blind _ _ _ _, fun U hU hWm => ⟨rfl, by rw [hU]; exact hW, kx_K.moved hWm hK⟩⟩ rfl (by rw [List.length_map]; exact hlen) hls.1 (by rw [hstk]; simp) (lv_room (by rw [kx_cats]; exact hcat)) hd ⟨hk, hn⟩ T hT X with ⟨v, st0, t, T', L', h0, X', hL', e1, e2, ⟨r, P', sz', hp, hq1, hq2⟩, stp⟩ | ⟨q, st0, t, T', L', E', ce, h0, X', hL', e1, e2, hx, hce, hcv, hcl, stp⟩
  · cases hq1
    have k9 := kk r P' sz' hp lsr T'.heap (locs ++ L') hlen9 hls (by rw [e1]; exact hq2) (fun q hq => by
      rcases List.mem_append.mp hq with h | h
      · exact hlo q h
      · exact hL' q h) hk hn
    have k9 : W p l e R s m args below meth c T'.heap (locs ++ L') (k + mc') (n + ms') Q (F0 m (pc + 3) lsr ((r.map (kx_v G.2.1)).toList ++ st.map (kx_v G.2.1))) := by
      cases r <;> simpa using k9
    obtain ⟨t2, a1, b1⟩ := k9 T' rfl X'
    exact ⟨t2, stp t2 a1, b1⟩
  · exact hx.elim
theorem kx_calln2 {G : kx_G} {L : kx_L} {ini : Bool} (B : kx_B p s m args meth c R G L ini cc) {d : Nat} (hRf : d ≤ R.frames) (hRl : 64 * d + 64 ≤ R.locals) :
    kx_rN l G L.1 cc d R.cells R.slots (kx_g p l e R s m args below meth c Q G) := by
  obtain ⟨hexec, hb, hown, hts, hK, hL, hini, hR1, hR2⟩ := B
  have f1 : ∀ d', d' < d → (kx_rm d' 0 0).frames + 1 ≤ R.frames := fun d' h => by show d' + 1 ≤ R.frames; omega
  have f2 : ∀ d' x, d' < d → x ≤ 45 → 8 + (x + 11) + (kx_rm d' 0 0).locals ≤ R.locals := fun d' x h hx => by show 8 + (x + 11) + (64 * d' + 64) ≤ R.locals; omega
  refine ⟨?_, ?_, ?_⟩
  · intro idx y na d' mc' ms' As b ci f st pc ls P sz k n Po stk hl hM hci hPb hstk hlen hcat hdd hmx hk hn hd kk
    obtain ⟨l1, l2, l3, l4, l5, l6, l7, l8⟩ := hl
    intro lsr H locs hlen9 hls hW hlo hkc hks
    have cw : CallW R s args L.1 (kx_R ci) idx y.1 y.2.1 y.2.2.1 y.2.2.2 (kx_W0 y) (kx_rm d' mc' ms') mc' ms' na :=
      ⟨callB_of na hts (kx_ow hts l4) rfl rfl rfl (hts _ l5) (hts _ l1) ⟨l6, l7, l8⟩ ⟨f1 d' hdd, f2 d' _ hdd hmx⟩, hts _ l2, by rw [hci.2]; exact hts _ l3⟩
    obtain ⟨r9, g0, cell, q1, q2, q3, -⟩ := hW.at hPb
    rw [kx_T_at hci.1] at g0
    cases g0
    have hrecv : ∃ cellB : Cell, H[G.2.1 b]? = some cellB ∧ cellB.vm.isStatics = false ∧ s.vm.findClass (kx_R ci) = some cellB.cls := ⟨cell, q1, by rw [q3]; rfl, by rw [q2]; exact (hK.1.1 ci _ (kx_T_at hci.1)).2.1⟩
    refine kx_aftn (va_runV (As := As.map (kx_v G.2.1)) (rest := st.map (kx_v G.2.1)) ⟨hexec, hb, hlen9.symm, hown, hts⟩ hM cw ⟨kx_blind _ _ _ _, hrecv, fun U hU hWm => ⟨rfl, by rw [hU]; exact hW, kx_K.moved hWm hK⟩⟩ rfl (by rw [List.length_map]; exact hlen) hls.1 (by rw [hstk]; simp [kx_v]) (lv_room (by rw [kx_cats]; exact hcat)) hd ⟨hk, hn⟩) hlo fun r P' sz' hp H1 locs1 hW1 hl1 => ?_
    have := kk r P' sz' hp lsr H1 locs1 hlen9 hls hW1 hl1 hk hn
    cases r <;> simpa using this
  · intro idx y na d' mc' ms' As st pc ls P sz k n Po stk hl hM hstk hlen hcat hdd hmx hk hn hd kk
    obtain ⟨l1, l2, l4, l5, l6, l7, l8⟩ := hl
    intro lsr H locs hlen9 hls hW hlo hkc hks
    have cw : CallB R s args L.1 idx y.1 y.2.1 y.2.2.1 y.2.2.2 (kx_W0 y) (kx_rm d' mc' ms') mc' ms' na ∧ (Cond.static y.1).before args s = true :=
      ⟨callB_of na hts (kx_ow hts l4) rfl rfl rfl (hts _ l5) (hts _ l1) ⟨l6, l7, l8⟩ ⟨f1 d' hdd, f2 d' _ hdd hmx⟩, hts _ l2⟩
    refine kx_aftn (va_runS (As := As.map (kx_v G.2.1)) (rest := st.map (kx_v G.2.1)) ⟨hexec, hb, hlen9.symm, hown, hts⟩ hM cw ⟨kx_blind _ _ _ _, fun U hU hWm => ⟨rfl, by rw [hU]; exact hW, kx_K.moved hWm hK⟩⟩ rfl (by rw [List.length_map]; exact hlen) hls.1 (by rw [hstk]; simp) (lv_room (by rw [kx_cats]; exact hcat)) hd ⟨hk, hn⟩) hlo fun r P' sz' hp H1 locs1 hW1 hl1 => ?_
    have := kk r P' sz' hp lsr H1 locs1 hlen9 hls hW1 hl1 hk hn
    cases r <;> simpa using this
  · intro idx y na d' mc' ms' As b st pc ls P sz k n Po stk hl hM hno hstk hlen hcat hdd hmx hk hn hd kk
    intro lsr H locs hlen9 hls hW hlo hkc hks
    rcases hl with ⟨l1, l2, l4, l0, l3, l5, l6, l7, l8⟩ | ⟨host, l1, l2, l4, l0, l3, l5, l6, l7, l8⟩
    · have cw : CallB R s args L.1 idx y.1 y.2.1 y.2.2.1 none (kx_W0 y) (kx_rm d' mc' ms') mc' ms' na ∧ y.1.name = "<init>" ∧ (Cond.instanceMethod y.1).before args s = true :=
        ⟨callB_of na hts (kx_ow hts (by rw [l0]; exact l4)) (by rw [← l0]) rfl rfl (hts _ l5) (hts _ l1) ⟨l6, l7, l8⟩ ⟨f1 d' hdd, f2 d' _ hdd hmx⟩, l3, hts _ l2⟩
      refine kx_aftn (va_runI (b := G.2.1 b) (As := As.map (kx_v G.2.1)) (rest := st.map (kx_v G.2.1)) ⟨hexec, hb, hlen9.symm, hown, hts⟩ hM cw ⟨kx_blind _ _ _ _, fun U hU hWm => ⟨rfl, by rw [hU]; exact hW, kx_K.moved hWm hK⟩⟩ rfl (by rw [List.length_map]; exact hlen) hls.1 (by rw [hstk]; simp [kx_v]) (lv_room (by rw [kx_cats]; exact hcat)) hd ⟨hk, hn⟩) hlo fun r P' sz' hp H1 locs1 hW1 hl1 => ?_
      obtain rfl := hno r P' sz' hp
      exact kk none P' sz' hp lsr H1 locs1 hlen9 hls hW1 hl1 hk hn
    · have cw : va_CN R s args L.1 idx y.1 host y.2.1 y.2.2.1 none (kx_W0 y) (kx_rm d' mc' ms') mc' ms' na ∧ y.1.name = "<init>" ∧ (Cond.instanceMethod y.1).before args s = true :=
        ⟨va_cnB na hts (kx_ow hts (by rw [l0]; exact l4)) (by rw [← l0]) rfl rfl (hK.2.2.1 _ l1) (hts _ l5) ⟨l6, l7, l8⟩ ⟨f1 d' hdd, f2 d' _ hdd hmx⟩, l3, hts _ l2⟩
      refine kx_aftn (va_runIN (b := G.2.1 b) (As := As.map (kx_v G.2.1)) (rest := st.map (kx_v G.2.1)) ⟨hexec, hb, hlen9.symm, hown, hts⟩ hM cw ⟨kx_blind _ _ _ _, fun U hU hWm => ⟨rfl, by rw [hU]; exact hW, kx_K.moved hWm hK⟩⟩ rfl (by rw [List.length_map]; exact hlen) hls.1 (by rw [hstk]; simp [kx_v]) (lv_room (by rw [kx_cats]; exact hcat)) hd ⟨hk, hn⟩) hlo fun r P' sz' hp H1 locs1 hW1 hl1 => ?_
      obtain rfl := hno r P' sz' hp
      exact kk none P' sz' hp lsr H1 locs1 hlen9 hls hW1 hl1 hk hn
end KXL

/-! strings: a body's rules for what the blocks don't hold -/
def kz_pz (l : Launch) (G : kx_G) (L : kx_L) (ini : Bool) (cc : ByteArray) (d mc ms : Nat) (g : kx_F) : Prop := ∃ (p : Program) (e : Env) (s : State) (m : MethodId) (args : Array Value) (below : List Frame) (meth : Method) (c : Code) (Q : State → Prop), g = kx_g p l e (kx_rm d mc ms) s m args below meth c Q G ∧ kx_B p s m args meth c (kx_rm d mc ms) G L ini cc
theorem kz_pz.k {l : Launch} {G : kx_G} {L : kx_L} {ini : Bool} {cc : ByteArray} {d mc ms : Nat} {g : kx_F} (h : kz_pz l G L ini cc d mc ms g) : kz_pk l G L ini cc d g := by
  obtain ⟨p, e, s, m, args, below, meth, c, Q, rfl, B⟩ := h
  exact ⟨p, e, _, s, m, args, below, meth, c, Q, rfl, B, rfl, rfl⟩
/-- a value fits the method's type, chars and bytes too -/
def kz_rok (t : Option FieldType) (r : Option Value) : Prop := kx_rok t r ∨ ∃ ty x, t = some ty ∧ r = some (.int x) ∧ narrow ty (.int x) = .int x
/-- a method with raw arguments -/
def kz_Pr (G : kx_G) (Rs : List Value) (P : kx_P) (sz : Nat) : Array Value → State → Prop := fun a U => a = Rs.toArray ∧ kx_W G P sz U.heap ∧ kx_K G U
theorem kz_blind (G : kx_G) (Rs : List Value) (P : kx_P) (sz : Nat) : FrameBlind (kz_Pr G Rs P sz) := fun a U g mk h => ⟨h.1, h.2.1, kx_K.same (u := U) rfl h.2.2⟩
theorem kz_mr {l : Launch} {G : kx_G} {y : kx_S} {L : kx_L} {ini : Bool} {d mc ms : Nat} {Rs : List Value} {P : kx_P} {sz : Nat} {Po : Option Value → kx_P → Nat → Prop} (T0 : kx_Tab) (hL : kx_Lok L) (ls0 : List (Option Value))
    (hy : plainFor y.1 = true ∧ y.1.cls = L.1 ∧ (ini = true → y.1.name = "<init>") ∧ 1 ≤ d) (hr9 : ∀ r P' sz', Po r P' sz' → kz_rok y.2.2.2 r) (hin : ∀ i v, kx_gl ls0 i = some v → (i, kx_v G.2.1 v) ∈ lv_args 0 Rs) (hlen : ls0.length = y.2.2.1) (hsl : (lg_sl Rs).length ≤ y.2.2.1)
    (body : ∀ g : kx_F, kx_rB L ini y.2.1 mc ms Po g → kx_rC l G L.1 y.2.1 d mc ms g → kx_rN l G L.1 y.2.1 d mc ms g → kz_pz l G L ini y.2.1 d mc ms g → g 0 ls0 [] P sz 0 0) : Met l y.1 (kx_W0 y) (kx_rm d mc ms) (kz_Pr G Rs P sz) (kx_Qn G Po) mc ms (fun q => G.2.2.2.1.size ≤ q) := by
  obtain ⟨hy1, hy2, hy3, hd⟩ := hy
  refine kz_ofW (cc := y.2.1) (maxL := y.2.2.1) (ret := y.2.2.2) hy1 rfl ?_
  intro p e s m args below meth c s₁ B hml hv
  obtain ⟨rfl, hW, hK⟩ := hv
  have hts := atoms_spec (ws := kx_W0 y) B.pre
  have hown : s.vm.findClass L.1 = some m.cls := by rw [← hy2]; exact findClass_of_methodNamed B.named
  have hB : kx_B p s m Rs.toArray meth c (kx_rm d mc ms) G L ini y.2.1 :=
    ⟨B.exec, B.bytes, hown, fun w hw => hts w (List.mem_cons_of_mem _ hw), hK, hL, fun h => by rw [← hy3 h]; exact (name_of_methodNamed B.named B.method).1, hd, by show 12 ≤ 64 * d + 64; omega⟩
  have hlocks := B.notSynchronized
  have hrt := B.returns
  have key := body (kx_g p l e (kx_rm d mc ms) s m Rs.toArray below meth c (MQ below (kx_Qn G Po) Rs.toArray s mc ms (fun q => G.2.2.2.1.size ≤ q)) G)
    (kx_blk T0 hB ?_) (kx_call hB rfl rfl) (kx_calln hB rfl rfl) ⟨p, e, s, m, _, below, meth, c, _, rfl, hB⟩
  · rw [lg_entry_eq]
    have hl := lv_entry Rs (n := y.2.2.1) hsl
    exact key _ s.heap [] (hlen.trans hml.symm) ⟨hl.1.trans hlen.symm, hl.2.1, fun i v hi => hl.2.2 _ (hin i v hi)⟩ hW (fun q hq => by cases hq) (Nat.zero_le _) (Nat.zero_le _)
  · intro i vo pc lsr H locs P2 s2 k n hd9 hi hq hW2 hlo hk hn
    refine W.widen hk hn ?_
    show W p l e (kx_rm d mc ms) s m _ below meth c H locs mc ms _ _
    rcases hr9 _ _ _ hq with hr | ⟨ty, x9, h9, hx9, hn9⟩
    · rcases hi with ⟨rfl, x, rfl⟩ | ⟨rfl, x, rfl⟩ | ⟨rfl, hx⟩ | ⟨rfl, rfl⟩
      · rcases kx_rok_i hr with h9 | ⟨h9, rfl | rfl⟩
        · rw [h9] at hrt
          exact W.iret B.exec B.bytes hrt (fun t ht hWm => ⟨_, P2, s2, hq, rfl, by rw [ht]; exact hW2⟩) hlo hd9 hlocks
        · rw [h9] at hrt
          exact W.zret B.exec B.bytes hrt rfl (fun t ht hWm => ⟨_, P2, s2, hq, rfl, by rw [ht]; exact hW2⟩) hlo hd9 hlocks
        · rw [h9] at hrt
          exact W.zret B.exec B.bytes hrt rfl (fun t ht hWm => ⟨_, P2, s2, hq, rfl, by rw [ht]; exact hW2⟩) hlo hd9 hlocks
      · rw [kx_rok_l hr] at hrt
        exact W.lret B.exec B.bytes hrt (fun t ht hWm => ⟨_, P2, s2, hq, rfl, by rw [ht]; exact hW2⟩) hlo hd9 hlocks
      · rcases hx with rfl | ⟨q, rfl⟩
        · obtain ⟨C, h9⟩ := kx_rok_a hr (Or.inl rfl)
          rw [h9] at hrt
          exact W.aret B.exec B.bytes hrt (Or.inl ⟨_, rfl⟩) (Or.inl rfl) (fun t ht hWm => ⟨_, P2, s2, hq, rfl, by rw [ht]; exact hW2⟩) hlo hd9 hlocks
        · obtain ⟨C, h9⟩ := kx_rok_a hr (Or.inr ⟨q, rfl⟩)
          rw [h9] at hrt
          exact W.aret B.exec B.bytes hrt (Or.inl ⟨_, rfl⟩) (Or.inr ⟨_, rfl⟩) (fun t ht hWm => ⟨_, P2, s2, hq, rfl, by rw [ht]; exact hW2⟩) hlo hd9 hlocks
      · rw [kx_rok_v hr] at hrt
        exact W.vret B.exec B.bytes hrt (fun t ht hWm => ⟨_, P2, s2, hq, rfl, by rw [ht]; exact hW2⟩) hlo hd9 hlocks
    · subst hx9
      rcases hi with ⟨rfl, x, hx⟩ | ⟨rfl, x, hx⟩ | ⟨rfl, hx | ⟨q, hx⟩⟩ | ⟨rfl, hx⟩
      · rw [h9] at hrt
        exact W.zret B.exec B.bytes hrt hn9 (fun t ht hWm => ⟨_, P2, s2, hq, rfl, by rw [ht]; exact hW2⟩) hlo hd9 hlocks
      · cases hx
      · cases hx
      · cases hx
      · cases hx
theorem kz_m2 {l : Launch} {G : kx_G} {y : kx_S} {L : kx_L} {ini : Bool} {d mc ms : Nat} {As : List Value} {P : kx_P} {sz : Nat} {Po : Option Value → kx_P → Nat → Prop} (T0 : kx_Tab) (hL : kx_Lok L) (ls0 : List (Option Value))
    (hy : plainFor y.1 = true ∧ y.1.cls = L.1 ∧ (ini = true → y.1.name = "<init>") ∧ 1 ≤ d) (hr9 : ∀ r P' sz', Po r P' sz' → kz_rok y.2.2.2 r) (hin : kx_in As y.2.2.1 = ls0) (hlen : ls0.length = y.2.2.1)
    (body : ∀ g : kx_F, kx_rB L ini y.2.1 mc ms Po g → kx_rC l G L.1 y.2.1 d mc ms g → kx_rN l G L.1 y.2.1 d mc ms g → kz_pz l G L ini y.2.1 d mc ms g → g 0 ls0 [] P sz 0 0) : kx_Mn l G y d mc ms As P sz Po :=
  kz_mr (Rs := As.map (kx_v G.2.1)) T0 hL ls0 hy hr9 (fun i v hi => by
    rw [← hin] at hi
    have := kx_in_args G.2.1 As _ 0 i v hi
    rw [Nat.zero_add] at this
    exact this) hlen (kx_in_sl _ _ _ (by rw [hin]; exact hlen)) body
theorem kz_m2d {l : Launch} {G : kx_G} {y : kx_S} {L : kx_L} {ini : Bool} {d mc ms : Nat} {As : List Value} {P : kx_P} {sz : Nat} {r : Option Value} {P' : kx_P} {sz' : Nat} (T0 : kx_Tab) (hL : kx_Lok L) (ls0 : List (Option Value))
    (hy : plainFor y.1 = true ∧ y.1.cls = L.1 ∧ (ini = true → y.1.name = "<init>") ∧ 1 ≤ d) (hr : kz_rok y.2.2.2 r) (hin : kx_in As y.2.2.1 = ls0) (hlen : ls0.length = y.2.2.1)
    (body : ∀ g : kx_F, kx_rB L ini y.2.1 mc ms (fun r2 P2 s2 => r2 = r ∧ P2 = P' ∧ s2 = sz') g → kx_rC l G L.1 y.2.1 d mc ms g → kz_pz l G L ini y.2.1 d mc ms g → g 0 ls0 [] P sz 0 0) : kx_M l G y d mc ms As P sz r P' sz' :=
  kx_Mn.d (kz_m2 T0 hL ls0 hy (fun _ _ _ h => by rw [h.1]; exact hr) hin hlen (fun g hB hC _ hK => body g hB hC hK)) fun _ _ _ h => h
section KZS
variable {l : Launch} {G : kx_G} {L : kx_L} {ini : Bool} {cc : ByteArray} {d mc ms : Nat} {g : kx_F}
theorem kx_W.old {P : kx_P} {sz : Nat} {H : Heap} (h : kx_W G P sz H) : ∀ a : Nat, a < G.2.2.2.1.size → ¬ G.2.2.2.1.size ≤ a → H[a]? = G.2.2.2.1[a]? := fun a ha _ => h.2.2.1 a ha
theorem kz_lds (h : kz_pz l G L ini cc d mc ms g) (hL : L.1 = "ClockKeeper$TextReader") (i : Nat) {pc idx : Nat} (hd : decode cc pc = .ok (.ldc idx, 2)) (hi : i < 23) (he : kz_ix i = idx) {ls : List (Option Value)} {st : List Value} {P : kx_P} {sz k n : Nat} (kk : g (pc + 2) ls (.ref (8 + i) :: st) P sz k n) : g pc ls st P sz k n := by
  obtain ⟨p, e, s, m, args, below, meth, c, Q, rfl, hexec, hbc, hown, hts, hK, -, -, -, -⟩ := h
  subst he
  intro lsr H locs hlen hls hW hlo hkc hks
  rw [hL] at hown
  exact va_ldcS hexec hbc hown (hK.2.2.2.2.2.2.2.2.1 i hi).1 hd (kk lsr H locs hlen hls hW hlo hkc hks)
theorem kz_K2 {s : State} (hK : kx_K G s) : kx_K2 G s := hK.2.2.2.2.2.2.2.2
theorem kz_cal (h : kz_pz l G L ini cc d mc ms g) {idx : Nat} {y : kx_S} {na d' mc' ms' : Nat} {As : List Value} (i : Nat) {st : List Value} {pc : Nat} {ls : List (Option Value)} {P : kx_P} {sz k n : Nat} {r : Option Value} {P' : kx_P} {sz' : Nat} {stk : List Value}
    (hl : kx_lV L.1 idx y na) (hM : kx_M l G y d' mc' ms' (.ref (8 + i) :: As) P sz r P' sz') (hy : y.1.cls = "java/lang/String") (hi : i < 23) (hstk : stk = As.reverse ++ .ref (8 + i) :: st) (hlen : As.length = na) (hcat : (st.map fun v => v.category).sum ≤ 8) (hdd : d' < d) (hmx : y.2.2.1 ≤ 45) (hk : k + mc' ≤ mc) (hn : n + ms' ≤ ms) (hd : decode cc pc = .ok (.invokevirtual idx, 3)) (kk : g (pc + 3) ls (r.toList ++ st) P' sz' (k + mc') (n + ms')) : g pc ls stk P sz k n := by
  obtain ⟨p, e, s, m, args, below, meth, c, Q, rfl, hexec, hb, hown, hts, hK, hL, hini, hR1, hR2⟩ := h
  obtain ⟨l1, l2, l3, l4, l5, l6, l7, l8⟩ := hl
  intro lsr H locs hlen9 hls hW hlo hkc hks
  have cw : CallW (kx_rm d mc ms) s args L.1 y.1.cls idx y.1 y.2.1 y.2.2.1 y.2.2.2 (kx_W0 y) (kx_rm d' mc' ms') mc' ms' na :=
    ⟨callB_of na hts (kx_ow hts l4) rfl rfl rfl (hts _ l5) (hts _ l1) ⟨l6, l7, l8⟩ ⟨hdd, by show 8 + (y.2.2.1 + 11) + (64 * d' + 64) ≤ 64 * d + 64; omega⟩, hts _ l2, hts _ l3⟩
  obtain ⟨cell, q1, q2, q3, -⟩ := ((kz_K2 hK).1 i hi).2.1.kept hW.old
  have hrecv : ∃ cellB : Cell, H[G.2.1 (8 + i)]? = some cellB ∧ cellB.vm.isStatics = false ∧ s.vm.findClass y.1.cls = some cellB.cls := ⟨cell, q1, q2, by rw [hy]; exact q3⟩
  refine kx_aft (va_runV (As := As.map (kx_v G.2.1)) (rest := st.map (kx_v G.2.1)) ⟨hexec, hb, hlen9.symm, hown, hts⟩ hM cw ⟨kx_blind _ _ _ _, hrecv, fun U hU hWm => ⟨rfl, by rw [hU]; exact hW, kx_K.moved hWm hK⟩⟩ rfl (by rw [List.length_map]; exact hlen) hls.1 (by rw [hstk]; simp [kx_v]) (lv_room (by rw [kx_cats]; exact hcat)) hd ⟨hk, hn⟩) hlo fun H1 locs1 hW1 hl1 => ?_
  have := kk lsr H1 locs1 hlen9 hls hW1 hl1 hk hn
  cases r <;> simpa using this
theorem kz_fval (h : kz_pz l G L ini cc d mc ms g) (i : Nat) {idx pc : Nat} (hi : i < 23) (hl : Cond.fieldLink L.1 idx "java/lang/String" "value" "[B" ∈ kx_ws) (hd : decode cc pc = .ok (.getfield idx, 3)) {ls : List (Option Value)} {st : List Value} {P : kx_P} {sz k n : Nat} (kk : g (pc + 3) ls (.ref (31 + i) :: st) P sz k n) : g pc ls (.ref (8 + i) :: st) P sz k n := by
  obtain ⟨p, e, s, m, args, below, meth, c, Q, rfl, hexec, hb, hown, hts, hK, -, -, -, -⟩ := h
  intro lsr H locs hlen hls hW hlo hkc hks
  obtain ⟨cf, k9, fi, f, cell, h1, h2, h3, h4, h5, -⟩ := ((kz_K2 hK).1 i hi).2.2.2.1
  refine W.getf hexec hb hown (hts _ hl) h1 h2 (a := G.2.1 (8 + i)) (by rw [hW.2.2.1 _ (Array.getElem?_eq_some_iff.mp h3).1]; exact h3) h4 (v := .ref (G.2.1 (31 + i))) h5 rfl rfl hd ?_
  exact kk lsr H locs hlen hls hW hlo hkc hks
theorem kz_fcod (h : kz_pz l G L ini cc d mc ms g) (i : Nat) {idx pc : Nat} (hi : i < 23) (hl : Cond.fieldLink L.1 idx "java/lang/String" "coder" "B" ∈ kx_ws) (hd : decode cc pc = .ok (.getfield idx, 3)) {ls : List (Option Value)} {st : List Value} {P : kx_P} {sz k n : Nat} (kk : g (pc + 3) ls (.int 0 :: st) P sz k n) : g pc ls (.ref (8 + i) :: st) P sz k n := by
  obtain ⟨p, e, s, m, args, below, meth, c, Q, rfl, hexec, hb, hown, hts, hK, -, -, -, -⟩ := h
  intro lsr H locs hlen hls hW hlo hkc hks
  obtain ⟨cf, k9, fi, f, cell, h1, h2, h3, h4, h5, -⟩ := ((kz_K2 hK).1 i hi).2.2.1
  refine W.getf hexec hb hown (hts _ hl) h1 h2 (a := G.2.1 (8 + i)) (by rw [hW.2.2.1 _ (Array.getElem?_eq_some_iff.mp h3).1]; exact h3) h4 (v := .int 0) h5 rfl rfl hd ?_
  exact kk lsr H locs hlen hls hW hlo hkc hks
theorem kz_stat {s : State} {C nm ds : String} {v : Value} {H : Heap} {P : kx_P} {sz : Nat} (h : va_Z C nm ds v (fun q => G.2.2.2.1.size ≤ q) s G.2.2.2.1) (hW : kx_W G P sz H) : va_Z C nm ds v (fun q => G.2.2.2.1.size ≤ q) s H := h.kept hW.old
theorem kz_gst {p : Program} {e : Env} {R : Room} {s : State} {m : MethodId} {args : Array Value} {below : List Frame} {meth : Method} {c : Code} {Q : State → Prop} {H : Heap} {locs : List Loc} {k n pc : Nat} {lsr : Array Slot} {rest : List Value} {A : Nat → Prop} {C nm ds own : String} {v : Value} {idx : Nat} (hexec : p.tables.exec = Jvm.exec) (hb : c.code = cc) (hown : s.vm.findClass own = some m.cls) (hZ : va_Z C nm ds v A s H) (hl : (Cond.fieldLink own idx C nm ds).before args s = true) (hd : decode cc pc = .ok (.getstatic idx, 3)) (kk : W p l e R s m args below meth c H locs k n Q (F0 m (pc + 3) lsr (v :: rest))) : W p l e R s m args below meth c H locs k n Q (F0 m pc lsr rest) := by
  obtain ⟨cf, kf, fi, f, a, cell, h1, h2, h3, h4, h5, h6, h7, h8⟩ := hZ
  exact W.gets hexec hb hown hl h1 h2 h3 h4 h5 (fun e => by rw [e] at h6; cases h6) h7 rfl hd kk
theorem kz_gcs (h : kz_pz l G L ini cc d mc ms g) {idx pc : Nat} (hl : Cond.fieldLink L.1 idx "java/lang/String" "COMPACT_STRINGS" "Z" ∈ kx_ws) (hd : decode cc pc = .ok (.getstatic idx, 3)) {ls : List (Option Value)} {st : List Value} {P : kx_P} {sz k n : Nat} (kk : g (pc + 3) ls (.int 1 :: st) P sz k n) : g pc ls st P sz k n := by
  obtain ⟨p, e, s, m, args, below, meth, c, Q, rfl, hexec, hb, hown, hts, hK, -, -, -, -⟩ := h
  intro lsr H locs hlen hls hW hlo hkc hks
  exact kz_gst hexec hb hown (kz_stat (kz_K2 hK).2.1 hW) (hts _ hl) hd (kk lsr H locs hlen hls hW hlo hkc hks)
theorem kz_alb (h : kz_pz l G L ini cc d mc ms g) (i : Nat) {pc : Nat} (hi : i < 23) (hd : decode cc pc = .ok (.arraylength, 1)) {ls : List (Option Value)} {st : List Value} {P : kx_P} {sz k n : Nat} (kk : g (pc + 1) ls (.int (nI (kz_by i).length) :: st) P sz k n) : g pc ls (.ref (31 + i) :: st) P sz k n := by
  obtain ⟨p, e, s, m, args, below, meth, c, Q, rfl, hexec, hb, hown, hts, hK, -, -, -, -⟩ := h
  intro lsr H locs hlen hls hW hlo hkc hks
  obtain ⟨cell, h1, h2, h3, h4, h5, -⟩ := ((kz_K2 hK).1 i hi).2.2.2.2
  refine W.alen hexec hb (a := G.2.1 (31 + i)) (by rw [hW.2.2.1 _ (Array.getElem?_eq_some_iff.mp h1).1]; exact h1) h2 h5 rfl rfl hd ?_
  exact kk lsr H locs hlen hls hW hlo hkc hks
theorem kz_bal (h : kz_pz l G L ini cc d mc ms g) (i j : Nat) {pc : Nat} (hi : i < 23) (hj : j < (kz_by i).length) (hd : decode cc pc = .ok (.baload, 1)) {ls : List (Option Value)} {st : List Value} {P : kx_P} {sz k n : Nat} (kk : g (pc + 1) ls (.int ((kz_by i).getD j 0) :: st) P sz k n) : g pc ls (.int (nI j) :: .ref (31 + i) :: st) P sz k n := by
  obtain ⟨p, e, s, m, args, below, meth, c, Q, rfl, hexec, hb, hown, hts, hK, -, -, -, -⟩ := h
  intro lsr H locs hlen hls hW hlo hkc hks
  obtain ⟨cell, h1, h2, h3, h4, h5, h6, -⟩ := ((kz_K2 hK).1 i hi).2.2.2.2
  have hlt : (kz_by i).length < 16 := by
    unfold kz_by
    split <;> decide
  have hc : (nI j).toNatClampNeg = j := nI_clamp (by omega)
  refine W.bald hexec hb (a := G.2.1 (31 + i)) (j := nI j) (by rw [hW.2.2.1 _ (Array.getElem?_eq_some_iff.mp h1).1]; exact h1) h2 h3 (fun hh => ?_) (by rw [hc]; exact h6 j hj) rfl rfl hd ?_
  · rcases hh with hh | hh
    · exact vp_in_nI (n := j) (N := 16) (by omega) (by omega) (Or.inl hh)
    · rw [hc] at hh; omega
  exact kk lsr H locs hlen hls hW hlo hkc hks
theorem kz_i2c (h : kz_pz l G L ini cc d mc ms g) {pc : Nat} (hd : decode cc pc = .ok (.i2c, 1)) {x : Int32} (y : Int32) (hy : (x.toUInt32 % 65536).toInt32 = y) {ls : List (Option Value)} {st : List Value} {P : kx_P} {sz k n : Nat} (kk : g (pc + 1) ls (.int y :: st) P sz k n) : g pc ls (.int x :: st) P sz k n := by
  obtain ⟨p, e, s, m, args, below, meth, c, Q, rfl, hexec, hb, hown, hts, hK, -, -, -, -⟩ := h
  intro lsr H locs hlen hls hW hlo hkc hks
  exact lv_i2c hexec hb hd hy (kk lsr H locs hlen hls hW hlo hkc hks)
end KZS
abbrev kxL_J3 : kx_L := (RJ3, [], [], [], [], [])
theorem kxLok_J3 : kx_Lok kxL_J3 := kx_Lok_of (by decide +kernel) (fun w h => by cases h) (by decide +kernel) (fun w h => by cases h) (fun q h => by cases h) (fun w h => by cases h) (by decide +kernel) (fun w h => by cases h)
theorem kz_sw : ∀ w ∈ [Cond.fieldLink RJ0 9 "java/lang/String" "value" "[B", Cond.fieldLink RJ0 15 "java/lang/String" "coder" "B", Cond.fieldLink RJ0 38 "java/lang/String" "COMPACT_STRINGS" "Z", Cond.fieldLink RJ0 1053 "jdk/internal/util/Preconditions" "SIOOBE_FORMATTER" "Ljava/util/function/BiFunction;"], w ∈ kx_ws := kx_in_tbl [2278, 2279, 788, 804] (by decide +kernel) (by decide +kernel)
theorem kz_byl : ∀ i : Nat, (kz_by i).length < 16 := by
  intro i
  unfold kz_by
  split <;> decide
theorem kz_bych : ∀ i : Fin 23, ∀ j : Fin 16, ((((kz_by i.1).getD j.1 0) &&& 255).toUInt32 % 65536).toInt32 = (kz_by i.1).getD j.1 0 := by decide +kernel
theorem kz_bych2 : ∀ i : Fin 23, ∀ j : Fin 16, (((kz_by i.1).getD j.1 0).toUInt32 % 65536).toInt32 = (kz_by i.1).getD j.1 0 := by decide +kernel
theorem kz_nar {i j : Nat} (hi : i < 23) (hj : j < (kz_by i).length) : narrow .char (.int ((kz_by i).getD j 0)) = .int ((kz_by i).getD j 0) := by
  have := kz_bych2 ⟨i, hi⟩ ⟨j, Nat.lt_trans hj (kz_byl i)⟩
  unfold narrow
  first
  | exact congrArg Value.int this
  | (simp only [this])
def bJ0_coder_7d493_3 : List kx_O := [(.ifCond .eq 10, 13, 0, 0, .null)]
theorem kJ0_coder_7d493_3 : kx_oks kxL_J0 false cJ0_coder_7d493 3 bJ0_coder_7d493_3 = true := by decide +kernel
def bJ0_coder_7d493_6 : List kx_O := [(.aload_n 0, 0, 0, 0, .null)]
theorem kJ0_coder_7d493_6 : kx_oks kxL_J0 false cJ0_coder_7d493 6 bJ0_coder_7d493_6 = true := by decide +kernel
def bJ0_coder_7d493_10 : List kx_O := [(.goto 4, 14, 0, 0, .null)]
theorem kJ0_coder_7d493_10 : kx_oks kxL_J0 false cJ0_coder_7d493 10 bJ0_coder_7d493_10 = true := by decide +kernel
def bJ0_coder_7d493_13 : List kx_O := [(.iconst 1, 0, 0, 0, .int 1)]
theorem kJ0_coder_7d493_13 : kx_oks kxL_J0 false cJ0_coder_7d493 13 bJ0_coder_7d493_13 = true := by decide +kernel
def bJ0_coder_7d493_14 : List kx_O := [(.ireturn, 0, 0, 0, .null)]
theorem kJ0_coder_7d493_14 : kx_oks kxL_J0 false cJ0_coder_7d493 14 bJ0_coder_7d493_14 = true := by decide +kernel
theorem dJ0_coder_7d493_0 : decode cJ0_coder_7d493 0 = .ok (.getstatic 38, 3) := by decide +kernel
theorem dJ0_coder_7d493_7 : decode cJ0_coder_7d493 7 = .ok (.getfield 15, 3) := by decide +kernel
set_option maxRecDepth 100000 in
set_option maxHeartbeats 4000000 in
theorem ct_J0_coder_7d493 (l : Launch) (G : kx_G) {P : kx_P} {sz : Nat} {i : Nat} (hi : i < 23)  : kx_M l G sJ0_coder_7d493 1 0 0 [.ref (8 + i)] P sz (some (.int (0))) P sz := by
  refine kz_m2d kx_tab kxLok_J0 (ini := false) [some (.ref (8 + i))] ⟨by decide +kernel, rfl, by decide, by decide⟩ (Or.inr ⟨_, _, rfl, rfl, rfl⟩) rfl rfl (fun g hB hC hK => ?_)
  refine kz_gcs hK (kx_at_l kz_sw 2 rfl) dJ0_coder_7d493_0 ?_
  refine hB bJ0_coder_7d493_3 _ _ _ _ _ _ _ kJ0_coder_7d493_3 ?_
  dsimp only [bJ0_coder_7d493_3, kx_wp, kx_step, kx_lI, kx_lL, kx_lA, kx_gl, kx_pI, kx_pL, kx_pR, kx_pA, kx_pV, kx_s1, kx_s2, kx_sl, kx_pre, kx_c2, kx_pl, kx_cmp, kx_oF, kx_eqN, kx_nil, kx_c1, kx_ft, kx_aI, kx_aL, kx_aR, kx_ln, Nat.reduceAdd, Option.toList, List.cons_append, List.nil_append]
  repeat (simp only [ks_eq, ks_ss]; try dsimp only [kx_wp, kx_step, kx_lI, kx_lL, kx_lA, kx_gl, kx_pI, kx_pL, kx_pR, kx_pA, kx_pV, kx_s1, kx_s2, kx_sl, kx_pre, kx_c2, kx_pl, kx_cmp, kx_oF, kx_eqN, kx_nil, kx_c1, kx_ft, kx_aI, kx_aL, kx_aR, kx_ln, Nat.reduceAdd, Option.toList, List.cons_append, List.nil_append])
  repeat' apply And.intro
  all_goals try (first | with_reducible assumption | (with_reducible refine ck_nzI ?_; simp; done) | (with_reducible refine ck_nzL ?_; simp; done) | (with_reducible refine vp_in_nI ?_ ?_ <;> first | omega | decide) | (with_reducible refine Nat.le_of_ble_eq_true ?_; rfl) | omega | exact Or.inl trivial | exact Or.inr trivial | exact Or.inl rfl | exact Or.inr rfl)
  · intro zc3
    first | exact absurd rfl zc3 | exact absurd zc3 (by decide) | exact absurd (by decide) zc3 | (exfalso; ((try clear hB hC); simp only [ck_lt, ck_le, ck_eq, not_true_eq_false, not_false_eq_true, Int32.reduceToInt, Int32.reduceAdd, Int32.reduceSub, Int32.reduceMul] at * <;> omega)) | (exfalso; simp_all; done)
  · intro zc3
    have ze3 := zc3
    refine hB bJ0_coder_7d493_6 _ _ _ _ _ _ _ kJ0_coder_7d493_6 ?_
    dsimp only [bJ0_coder_7d493_6, kx_wp, kx_step, kx_lI, kx_lL, kx_lA, kx_gl, kx_pI, kx_pL, kx_pR, kx_pA, kx_pV, kx_s1, kx_s2, kx_sl, kx_pre, kx_c2, kx_pl, kx_cmp, kx_oF, kx_eqN, kx_nil, kx_c1, kx_ft, kx_aI, kx_aL, kx_aR, kx_ln, Nat.reduceAdd, Option.toList, List.cons_append, List.nil_append]
    repeat (simp only [ks_eq, ks_ss]; try dsimp only [kx_wp, kx_step, kx_lI, kx_lL, kx_lA, kx_gl, kx_pI, kx_pL, kx_pR, kx_pA, kx_pV, kx_s1, kx_s2, kx_sl, kx_pre, kx_c2, kx_pl, kx_cmp, kx_oF, kx_eqN, kx_nil, kx_c1, kx_ft, kx_aI, kx_aL, kx_aR, kx_ln, Nat.reduceAdd, Option.toList, List.cons_append, List.nil_append])
    repeat' apply And.intro
    all_goals try (first | with_reducible assumption | (with_reducible refine ck_nzI ?_; simp; done) | (with_reducible refine ck_nzL ?_; simp; done) | (with_reducible refine vp_in_nI ?_ ?_ <;> first | omega | decide) | (with_reducible refine Nat.le_of_ble_eq_true ?_; rfl) | omega | exact Or.inl trivial | exact Or.inr trivial | exact Or.inl rfl | exact Or.inr rfl)
    refine kz_fcod hK i hi (kx_at_l kz_sw 1 rfl) dJ0_coder_7d493_7 ?_
    refine hB bJ0_coder_7d493_10 _ _ _ _ _ _ _ kJ0_coder_7d493_10 ?_
    dsimp only [bJ0_coder_7d493_10, kx_wp, kx_step, kx_lI, kx_lL, kx_lA, kx_gl, kx_pI, kx_pL, kx_pR, kx_pA, kx_pV, kx_s1, kx_s2, kx_sl, kx_pre, kx_c2, kx_pl, kx_cmp, kx_oF, kx_eqN, kx_nil, kx_c1, kx_ft, kx_aI, kx_aL, kx_aR, kx_ln, Nat.reduceAdd, Option.toList, List.cons_append, List.nil_append]
    repeat (simp only [ks_eq, ks_ss]; try dsimp only [kx_wp, kx_step, kx_lI, kx_lL, kx_lA, kx_gl, kx_pI, kx_pL, kx_pR, kx_pA, kx_pV, kx_s1, kx_s2, kx_sl, kx_pre, kx_c2, kx_pl, kx_cmp, kx_oF, kx_eqN, kx_nil, kx_c1, kx_ft, kx_aI, kx_aL, kx_aR, kx_ln, Nat.reduceAdd, Option.toList, List.cons_append, List.nil_append])
    repeat' apply And.intro
    all_goals try (first | with_reducible assumption | (with_reducible refine ck_nzI ?_; simp; done) | (with_reducible refine ck_nzL ?_; simp; done) | (with_reducible refine vp_in_nI ?_ ?_ <;> first | omega | decide) | (with_reducible refine Nat.le_of_ble_eq_true ?_; rfl) | omega | exact Or.inl trivial | exact Or.inr trivial | exact Or.inl rfl | exact Or.inr rfl)
    refine hB bJ0_coder_7d493_14 _ _ _ _ _ _ _ kJ0_coder_7d493_14 ?_
    dsimp only [bJ0_coder_7d493_14, kx_wp, kx_step, kx_lI, kx_lL, kx_lA, kx_gl, kx_pI, kx_pL, kx_pR, kx_pA, kx_pV, kx_s1, kx_s2, kx_sl, kx_pre, kx_c2, kx_pl, kx_cmp, kx_oF, kx_eqN, kx_nil, kx_c1, kx_ft, kx_aI, kx_aL, kx_aR, kx_ln, Nat.reduceAdd, Option.toList, List.cons_append, List.nil_append]
    repeat (simp only [ks_eq, ks_ss]; try dsimp only [kx_wp, kx_step, kx_lI, kx_lL, kx_lA, kx_gl, kx_pI, kx_pL, kx_pR, kx_pA, kx_pV, kx_s1, kx_s2, kx_sl, kx_pre, kx_c2, kx_pl, kx_cmp, kx_oF, kx_eqN, kx_nil, kx_c1, kx_ft, kx_aI, kx_aL, kx_aR, kx_ln, Nat.reduceAdd, Option.toList, List.cons_append, List.nil_append])
    all_goals (repeat' apply And.intro)
    all_goals ((try clear hB hC); first | exact True.intro | with_reducible rfl | with_reducible assumption | (with_reducible refine vp_in_nI ?_ ?_ <;> first | omega | decide) | exact Nat.le_of_ble_eq_true rfl | (with_reducible refine ck_nzI ?_; simp; done) | (with_reducible refine ck_nzL ?_; simp; done) | (simp only [pk_us, pk_uLs, ze3, ↓reduceIte, not_true_eq_false, not_false_eq_true]; done) | (simp only [ze3, ↓reduceIte, not_true_eq_false, not_false_eq_true]; with_reducible rfl) | omega | skip)

def bJ0_isLatin1_aae02_3 : List kx_O := [(.ifCond .eq 14, 17, 0, 0, .null)]
theorem kJ0_isLatin1_aae02_3 : kx_oks kxL_J0 false cJ0_isLatin1_aae02 3 bJ0_isLatin1_aae02_3 = true := by decide +kernel
def bJ0_isLatin1_aae02_6 : List kx_O := [(.aload_n 0, 0, 0, 0, .null)]
theorem kJ0_isLatin1_aae02_6 : kx_oks kxL_J0 false cJ0_isLatin1_aae02 6 bJ0_isLatin1_aae02_6 = true := by decide +kernel
def bJ0_isLatin1_aae02_10 : List kx_O := [(.ifCond .ne 7, 17, 0, 0, .null)]
theorem kJ0_isLatin1_aae02_10 : kx_oks kxL_J0 false cJ0_isLatin1_aae02 10 bJ0_isLatin1_aae02_10 = true := by decide +kernel
def bJ0_isLatin1_aae02_13 : List kx_O := [(.iconst 1, 0, 0, 0, .int 1), (.goto 4, 18, 0, 0, .null)]
theorem kJ0_isLatin1_aae02_13 : kx_oks kxL_J0 false cJ0_isLatin1_aae02 13 bJ0_isLatin1_aae02_13 = true := by decide +kernel
def bJ0_isLatin1_aae02_17 : List kx_O := [(.iconst 0, 0, 0, 0, .int 0)]
theorem kJ0_isLatin1_aae02_17 : kx_oks kxL_J0 false cJ0_isLatin1_aae02 17 bJ0_isLatin1_aae02_17 = true := by decide +kernel
def bJ0_isLatin1_aae02_18 : List kx_O := [(.ireturn, 0, 0, 0, .null)]
theorem kJ0_isLatin1_aae02_18 : kx_oks kxL_J0 false cJ0_isLatin1_aae02 18 bJ0_isLatin1_aae02_18 = true := by decide +kernel
theorem dJ0_isLatin1_aae02_0 : decode cJ0_isLatin1_aae02 0 = .ok (.getstatic 38, 3) := by decide +kernel
theorem dJ0_isLatin1_aae02_7 : decode cJ0_isLatin1_aae02 7 = .ok (.getfield 15, 3) := by decide +kernel
set_option maxRecDepth 100000 in
set_option maxHeartbeats 4000000 in
theorem ct_J0_isLatin1_aae02 (l : Launch) (G : kx_G) {P : kx_P} {sz : Nat} {i : Nat} (hi : i < 23)  : kx_M l G sJ0_isLatin1_aae02 1 0 0 [.ref (8 + i)] P sz (some (.int (1))) P sz := by
  refine kz_m2d kx_tab kxLok_J0 (ini := false) [some (.ref (8 + i))] ⟨by decide +kernel, rfl, by decide, by decide⟩ (Or.inl (Or.inr rfl)) rfl rfl (fun g hB hC hK => ?_)
  refine kz_gcs hK (kx_at_l kz_sw 2 rfl) dJ0_isLatin1_aae02_0 ?_
  refine hB bJ0_isLatin1_aae02_3 _ _ _ _ _ _ _ kJ0_isLatin1_aae02_3 ?_
  dsimp only [bJ0_isLatin1_aae02_3, kx_wp, kx_step, kx_lI, kx_lL, kx_lA, kx_gl, kx_pI, kx_pL, kx_pR, kx_pA, kx_pV, kx_s1, kx_s2, kx_sl, kx_pre, kx_c2, kx_pl, kx_cmp, kx_oF, kx_eqN, kx_nil, kx_c1, kx_ft, kx_aI, kx_aL, kx_aR, kx_ln, Nat.reduceAdd, Option.toList, List.cons_append, List.nil_append]
  repeat (simp only [ks_eq, ks_ss]; try dsimp only [kx_wp, kx_step, kx_lI, kx_lL, kx_lA, kx_gl, kx_pI, kx_pL, kx_pR, kx_pA, kx_pV, kx_s1, kx_s2, kx_sl, kx_pre, kx_c2, kx_pl, kx_cmp, kx_oF, kx_eqN, kx_nil, kx_c1, kx_ft, kx_aI, kx_aL, kx_aR, kx_ln, Nat.reduceAdd, Option.toList, List.cons_append, List.nil_append])
  repeat' apply And.intro
  all_goals try (first | with_reducible assumption | (with_reducible refine ck_nzI ?_; simp; done) | (with_reducible refine ck_nzL ?_; simp; done) | (with_reducible refine vp_in_nI ?_ ?_ <;> first | omega | decide) | (with_reducible refine Nat.le_of_ble_eq_true ?_; rfl) | omega | exact Or.inl trivial | exact Or.inr trivial | exact Or.inl rfl | exact Or.inr rfl)
  · intro zc3
    first | exact absurd rfl zc3 | exact absurd zc3 (by decide) | exact absurd (by decide) zc3 | (exfalso; ((try clear hB hC); simp only [ck_lt, ck_le, ck_eq, not_true_eq_false, not_false_eq_true, Int32.reduceToInt, Int32.reduceAdd, Int32.reduceSub, Int32.reduceMul] at * <;> omega)) | (exfalso; simp_all; done)
  · intro zc3
    have ze3 := zc3
    refine hB bJ0_isLatin1_aae02_6 _ _ _ _ _ _ _ kJ0_isLatin1_aae02_6 ?_
    dsimp only [bJ0_isLatin1_aae02_6, kx_wp, kx_step, kx_lI, kx_lL, kx_lA, kx_gl, kx_pI, kx_pL, kx_pR, kx_pA, kx_pV, kx_s1, kx_s2, kx_sl, kx_pre, kx_c2, kx_pl, kx_cmp, kx_oF, kx_eqN, kx_nil, kx_c1, kx_ft, kx_aI, kx_aL, kx_aR, kx_ln, Nat.reduceAdd, Option.toList, List.cons_append, List.nil_append]
    repeat (simp only [ks_eq, ks_ss]; try dsimp only [kx_wp, kx_step, kx_lI, kx_lL, kx_lA, kx_gl, kx_pI, kx_pL, kx_pR, kx_pA, kx_pV, kx_s1, kx_s2, kx_sl, kx_pre, kx_c2, kx_pl, kx_cmp, kx_oF, kx_eqN, kx_nil, kx_c1, kx_ft, kx_aI, kx_aL, kx_aR, kx_ln, Nat.reduceAdd, Option.toList, List.cons_append, List.nil_append])
    repeat' apply And.intro
    all_goals try (first | with_reducible assumption | (with_reducible refine ck_nzI ?_; simp; done) | (with_reducible refine ck_nzL ?_; simp; done) | (with_reducible refine vp_in_nI ?_ ?_ <;> first | omega | decide) | (with_reducible refine Nat.le_of_ble_eq_true ?_; rfl) | omega | exact Or.inl trivial | exact Or.inr trivial | exact Or.inl rfl | exact Or.inr rfl)
    refine kz_fcod hK i hi (kx_at_l kz_sw 1 rfl) dJ0_isLatin1_aae02_7 ?_
    refine hB bJ0_isLatin1_aae02_10 _ _ _ _ _ _ _ kJ0_isLatin1_aae02_10 ?_
    dsimp only [bJ0_isLatin1_aae02_10, kx_wp, kx_step, kx_lI, kx_lL, kx_lA, kx_gl, kx_pI, kx_pL, kx_pR, kx_pA, kx_pV, kx_s1, kx_s2, kx_sl, kx_pre, kx_c2, kx_pl, kx_cmp, kx_oF, kx_eqN, kx_nil, kx_c1, kx_ft, kx_aI, kx_aL, kx_aR, kx_ln, Nat.reduceAdd, Option.toList, List.cons_append, List.nil_append]
    repeat (simp only [ks_eq, ks_ss]; try dsimp only [kx_wp, kx_step, kx_lI, kx_lL, kx_lA, kx_gl, kx_pI, kx_pL, kx_pR, kx_pA, kx_pV, kx_s1, kx_s2, kx_sl, kx_pre, kx_c2, kx_pl, kx_cmp, kx_oF, kx_eqN, kx_nil, kx_c1, kx_ft, kx_aI, kx_aL, kx_aR, kx_ln, Nat.reduceAdd, Option.toList, List.cons_append, List.nil_append])
    repeat' apply And.intro
    all_goals try (first | with_reducible assumption | (with_reducible refine ck_nzI ?_; simp; done) | (with_reducible refine ck_nzL ?_; simp; done) | (with_reducible refine vp_in_nI ?_ ?_ <;> first | omega | decide) | (with_reducible refine Nat.le_of_ble_eq_true ?_; rfl) | omega | exact Or.inl trivial | exact Or.inr trivial | exact Or.inl rfl | exact Or.inr rfl)
    · intro zc10
      first | exact absurd rfl zc10 | exact absurd zc10 (by decide) | exact absurd (by decide) zc10 | (exfalso; ((try clear hB hC); simp only [ck_lt, ck_le, ck_eq, not_true_eq_false, not_false_eq_true, Int32.reduceToInt, Int32.reduceAdd, Int32.reduceSub, Int32.reduceMul] at * <;> omega)) | (exfalso; simp_all; done)
    · intro zc10
      with_reducible first | have ze10 := Decidable.not_not.mp zc10 | have ze10 := zc10
      refine hB bJ0_isLatin1_aae02_13 _ _ _ _ _ _ _ kJ0_isLatin1_aae02_13 ?_
      dsimp only [bJ0_isLatin1_aae02_13, kx_wp, kx_step, kx_lI, kx_lL, kx_lA, kx_gl, kx_pI, kx_pL, kx_pR, kx_pA, kx_pV, kx_s1, kx_s2, kx_sl, kx_pre, kx_c2, kx_pl, kx_cmp, kx_oF, kx_eqN, kx_nil, kx_c1, kx_ft, kx_aI, kx_aL, kx_aR, kx_ln, Nat.reduceAdd, Option.toList, List.cons_append, List.nil_append]
      repeat (simp only [ks_eq, ks_ss]; try dsimp only [kx_wp, kx_step, kx_lI, kx_lL, kx_lA, kx_gl, kx_pI, kx_pL, kx_pR, kx_pA, kx_pV, kx_s1, kx_s2, kx_sl, kx_pre, kx_c2, kx_pl, kx_cmp, kx_oF, kx_eqN, kx_nil, kx_c1, kx_ft, kx_aI, kx_aL, kx_aR, kx_ln, Nat.reduceAdd, Option.toList, List.cons_append, List.nil_append])
      repeat' apply And.intro
      all_goals try (first | with_reducible assumption | (with_reducible refine ck_nzI ?_; simp; done) | (with_reducible refine ck_nzL ?_; simp; done) | (with_reducible refine vp_in_nI ?_ ?_ <;> first | omega | decide) | (with_reducible refine Nat.le_of_ble_eq_true ?_; rfl) | omega | exact Or.inl trivial | exact Or.inr trivial | exact Or.inl rfl | exact Or.inr rfl)
      refine hB bJ0_isLatin1_aae02_18 _ _ _ _ _ _ _ kJ0_isLatin1_aae02_18 ?_
      dsimp only [bJ0_isLatin1_aae02_18, kx_wp, kx_step, kx_lI, kx_lL, kx_lA, kx_gl, kx_pI, kx_pL, kx_pR, kx_pA, kx_pV, kx_s1, kx_s2, kx_sl, kx_pre, kx_c2, kx_pl, kx_cmp, kx_oF, kx_eqN, kx_nil, kx_c1, kx_ft, kx_aI, kx_aL, kx_aR, kx_ln, Nat.reduceAdd, Option.toList, List.cons_append, List.nil_append]
      repeat (simp only [ks_eq, ks_ss]; try dsimp only [kx_wp, kx_step, kx_lI, kx_lL, kx_lA, kx_gl, kx_pI, kx_pL, kx_pR, kx_pA, kx_pV, kx_s1, kx_s2, kx_sl, kx_pre, kx_c2, kx_pl, kx_cmp, kx_oF, kx_eqN, kx_nil, kx_c1, kx_ft, kx_aI, kx_aL, kx_aR, kx_ln, Nat.reduceAdd, Option.toList, List.cons_append, List.nil_append])
      all_goals (repeat' apply And.intro)
      all_goals ((try clear hB hC); first | exact True.intro | with_reducible rfl | with_reducible assumption | (with_reducible refine vp_in_nI ?_ ?_ <;> first | omega | decide) | exact Nat.le_of_ble_eq_true rfl | (with_reducible refine ck_nzI ?_; simp; done) | (with_reducible refine ck_nzL ?_; simp; done) | (simp only [pk_us, pk_uLs, ze3, eq_true ze10, ↓reduceIte, not_true_eq_false, not_false_eq_true]; done) | (simp only [ze3, eq_true ze10, ↓reduceIte, not_true_eq_false, not_false_eq_true]; with_reducible rfl) | omega | skip)

def bJ0_length_8abf5_0 : List kx_O := [(.aload_n 0, 0, 0, 0, .null)]
theorem kJ0_length_8abf5_0 : kx_oks kxL_J0 false cJ0_length_8abf5 0 bJ0_length_8abf5_0 = true := by decide +kernel
def bJ0_length_8abf5_5 : List kx_O := [(.aload_n 0, 0, 0, 0, .null)]
theorem kJ0_length_8abf5_5 : kx_oks kxL_J0 false cJ0_length_8abf5 5 bJ0_length_8abf5_5 = true := by decide +kernel
def bJ0_length_8abf5_9 : List kx_O := [(.ishr, 0, 0, 0, .null), (.ireturn, 0, 0, 0, .null)]
theorem kJ0_length_8abf5_9 : kx_oks kxL_J0 false cJ0_length_8abf5 9 bJ0_length_8abf5_9 = true := by decide +kernel
theorem dJ0_length_8abf5_1 : decode cJ0_length_8abf5 1 = .ok (.getfield 9, 3) := by decide +kernel
theorem dJ0_length_8abf5_4 : decode cJ0_length_8abf5 4 = .ok (.arraylength, 1) := by decide +kernel
theorem dJ0_length_8abf5_6 : decode cJ0_length_8abf5 6 = .ok (.invokevirtual 335, 3) := by decide +kernel
set_option maxRecDepth 100000 in
set_option maxHeartbeats 4000000 in
theorem ct_J0_length_8abf5 (l : Launch) (G : kx_G) {P : kx_P} {sz : Nat} {i : Nat} (hi : i < 23)  : kx_M l G sJ0_length_8abf5 2 0 0 [.ref (8 + i)] P sz (some (.int (nI (kz_by i).length))) P sz := by
  refine kz_m2d kx_tab kxLok_J0 (ini := false) [some (.ref (8 + i))] ⟨by decide +kernel, rfl, by decide, by decide⟩ (Or.inl ⟨_, rfl⟩) rfl rfl (fun g hB hC hK => ?_)
  refine hB bJ0_length_8abf5_0 _ _ _ _ _ _ _ kJ0_length_8abf5_0 ?_
  dsimp only [bJ0_length_8abf5_0, kx_wp, kx_step, kx_lI, kx_lL, kx_lA, kx_gl, kx_pI, kx_pL, kx_pR, kx_pA, kx_pV, kx_s1, kx_s2, kx_sl, kx_pre, kx_c2, kx_pl, kx_cmp, kx_oF, kx_eqN, kx_nil, kx_c1, kx_ft, kx_aI, kx_aL, kx_aR, kx_ln, Nat.reduceAdd, Option.toList, List.cons_append, List.nil_append]
  repeat (simp only [ks_eq, ks_ss]; try dsimp only [kx_wp, kx_step, kx_lI, kx_lL, kx_lA, kx_gl, kx_pI, kx_pL, kx_pR, kx_pA, kx_pV, kx_s1, kx_s2, kx_sl, kx_pre, kx_c2, kx_pl, kx_cmp, kx_oF, kx_eqN, kx_nil, kx_c1, kx_ft, kx_aI, kx_aL, kx_aR, kx_ln, Nat.reduceAdd, Option.toList, List.cons_append, List.nil_append])
  repeat' apply And.intro
  all_goals try (first | with_reducible assumption | (with_reducible refine ck_nzI ?_; simp; done) | (with_reducible refine ck_nzL ?_; simp; done) | (with_reducible refine vp_in_nI ?_ ?_ <;> first | omega | decide) | (with_reducible refine Nat.le_of_ble_eq_true ?_; rfl) | omega | exact Or.inl trivial | exact Or.inr trivial | exact Or.inl rfl | exact Or.inr rfl)
  refine kz_fval hK i hi (kx_at_l kz_sw 0 rfl) dJ0_length_8abf5_1 ?_
  refine kz_alb hK i hi dJ0_length_8abf5_4 ?_
  refine hB bJ0_length_8abf5_5 _ _ _ _ _ _ _ kJ0_length_8abf5_5 ?_
  dsimp only [bJ0_length_8abf5_5, kx_wp, kx_step, kx_lI, kx_lL, kx_lA, kx_gl, kx_pI, kx_pL, kx_pR, kx_pA, kx_pV, kx_s1, kx_s2, kx_sl, kx_pre, kx_c2, kx_pl, kx_cmp, kx_oF, kx_eqN, kx_nil, kx_c1, kx_ft, kx_aI, kx_aL, kx_aR, kx_ln, Nat.reduceAdd, Option.toList, List.cons_append, List.nil_append]
  repeat (simp only [ks_eq, ks_ss]; try dsimp only [kx_wp, kx_step, kx_lI, kx_lL, kx_lA, kx_gl, kx_pI, kx_pL, kx_pR, kx_pA, kx_pV, kx_s1, kx_s2, kx_sl, kx_pre, kx_c2, kx_pl, kx_cmp, kx_oF, kx_eqN, kx_nil, kx_c1, kx_ft, kx_aI, kx_aL, kx_aR, kx_ln, Nat.reduceAdd, Option.toList, List.cons_append, List.nil_append])
  repeat' apply And.intro
  all_goals try (first | with_reducible assumption | (with_reducible refine ck_nzI ?_; simp; done) | (with_reducible refine ck_nzL ?_; simp; done) | (with_reducible refine vp_in_nI ?_ ?_ <;> first | omega | decide) | (with_reducible refine Nat.le_of_ble_eq_true ?_; rfl) | omega | exact Or.inl trivial | exact Or.inr trivial | exact Or.inl rfl | exact Or.inr rfl)
  refine kz_cal hK i lJ0_335 (ct_J0_coder_7d493 l G hi) rfl hi rfl rfl (Nat.le_of_ble_eq_true rfl) (by decide) (by decide) (by omega) (by omega) dJ0_length_8abf5_6 ?_
  dsimp only [Option.toList, List.cons_append, List.nil_append]
  refine hB bJ0_length_8abf5_9 _ _ _ _ _ _ _ kJ0_length_8abf5_9 ?_
  dsimp only [bJ0_length_8abf5_9, kx_wp, kx_step, kx_lI, kx_lL, kx_lA, kx_gl, kx_pI, kx_pL, kx_pR, kx_pA, kx_pV, kx_s1, kx_s2, kx_sl, kx_pre, kx_c2, kx_pl, kx_cmp, kx_oF, kx_eqN, kx_nil, kx_c1, kx_ft, kx_aI, kx_aL, kx_aR, kx_ln, Nat.reduceAdd, Option.toList, List.cons_append, List.nil_append]
  repeat (simp only [ks_eq, ks_ss]; try dsimp only [kx_wp, kx_step, kx_lI, kx_lL, kx_lA, kx_gl, kx_pI, kx_pL, kx_pR, kx_pA, kx_pV, kx_s1, kx_s2, kx_sl, kx_pre, kx_c2, kx_pl, kx_cmp, kx_oF, kx_eqN, kx_nil, kx_c1, kx_ft, kx_aI, kx_aL, kx_aR, kx_ln, Nat.reduceAdd, Option.toList, List.cons_append, List.nil_append])
  all_goals (repeat' apply And.intro)
  all_goals ((try clear hB hC); first | exact True.intro | rfl | (show some (Value.int (nI (kz_by i).length >>> (0 &&& 31))) = _; rw [show (0 &&& 31 : Int32) = 0 from rfl, Int32.shiftRight_zero]))

def bJ3_checkIndex_8e157_0 : List kx_O := [(.iload_n 0, 0, 0, 0, .null), (.ifCond .lt 8, 9, 0, 0, .null)]
theorem kJ3_checkIndex_8e157_0 : kx_oks kxL_J3 false cJ3_checkIndex_8e157 0 bJ3_checkIndex_8e157_0 = true := by decide +kernel
def bJ3_checkIndex_8e157_4 : List kx_O := [(.iload_n 0, 0, 0, 0, .null), (.iload_n 1, 1, 0, 0, .null), (.if_icmp .lt 10, 16, 0, 0, .null)]
theorem kJ3_checkIndex_8e157_4 : kx_oks kxL_J3 false cJ3_checkIndex_8e157 4 bJ3_checkIndex_8e157_4 = true := by decide +kernel
def bJ3_checkIndex_8e157_9 : List kx_O := [(.aload_n 2, 2, 0, 0, .null), (.iload_n 0, 0, 0, 0, .null), (.iload_n 1, 1, 0, 0, .null)]
theorem kJ3_checkIndex_8e157_9 : kx_oks kxL_J3 false cJ3_checkIndex_8e157 9 bJ3_checkIndex_8e157_9 = true := by decide +kernel
def bJ3_checkIndex_8e157_16 : List kx_O := [(.iload_n 0, 0, 0, 0, .null), (.ireturn, 0, 0, 0, .null)]
theorem kJ3_checkIndex_8e157_16 : kx_oks kxL_J3 false cJ3_checkIndex_8e157 16 bJ3_checkIndex_8e157_16 = true := by decide +kernel
theorem dJ3_checkIndex_8e157_12 : decode cJ3_checkIndex_8e157 12 = .ok (.invokestatic 95, 3) := by decide +kernel
theorem dJ3_checkIndex_8e157_15 : decode cJ3_checkIndex_8e157 15 = .ok (.athrow, 1) := by decide +kernel
set_option maxRecDepth 100000 in
set_option maxHeartbeats 4000000 in
theorem ct_J3_checkIndex_8e157 (l : Launch) (G : kx_G) {P : kx_P} {sz : Nat} {v : Value} {i n : Nat} (hv : v.category = 1) (hi : i < n) (hn : n < 2 ^ 31)  : Met l yJ3_checkIndex_8e157 (kx_W0 sJ3_checkIndex_8e157) (kx_rm 1 0 0) (kz_Pr G [.int (nI i), .int (nI n), v] P sz) (kx_Qn G (fun r P2 s2 => r = some (.int (nI i)) ∧ P2 = P ∧ s2 = sz)) 0 0 (fun q => G.2.2.2.1.size ≤ q) := by
  refine kz_mr (y := sJ3_checkIndex_8e157) kx_tab kxLok_J3 (ini := false) [some (.int (nI i)), some (.int (nI n)), none] ⟨by decide +kernel, rfl, by decide, by decide⟩ (fun _ _ _ h => Or.inl (h.1 ▸ ⟨_, rfl⟩)) (fun j w hw => ?_) rfl (by simp [lg_sl, hv, show ∀ z : Int32, (Value.int z).category = 1 from fun _ => rfl]) (fun g hB hC _ hK => ?_)
  · rcases j with _ | _ | _ | j <;> cases hw <;> simp [lv_args, kx_v, Value.category]
  refine hB bJ3_checkIndex_8e157_0 _ _ _ _ _ _ _ kJ3_checkIndex_8e157_0 ?_
  dsimp only [bJ3_checkIndex_8e157_0, kx_wp, kx_step, kx_lI, kx_lL, kx_lA, kx_gl, kx_pI, kx_pL, kx_pR, kx_pA, kx_pV, kx_s1, kx_s2, kx_sl, kx_pre, kx_c2, kx_pl, kx_cmp, kx_oF, kx_eqN, kx_nil, kx_c1, kx_ft, kx_aI, kx_aL, kx_aR, kx_ln, Nat.reduceAdd, Option.toList, List.cons_append, List.nil_append]
  repeat (simp only [ks_eq, ks_ss]; try dsimp only [kx_wp, kx_step, kx_lI, kx_lL, kx_lA, kx_gl, kx_pI, kx_pL, kx_pR, kx_pA, kx_pV, kx_s1, kx_s2, kx_sl, kx_pre, kx_c2, kx_pl, kx_cmp, kx_oF, kx_eqN, kx_nil, kx_c1, kx_ft, kx_aI, kx_aL, kx_aR, kx_ln, Nat.reduceAdd, Option.toList, List.cons_append, List.nil_append])
  repeat' apply And.intro
  all_goals try (first | with_reducible assumption | (with_reducible refine ck_nzI ?_; simp; done) | (with_reducible refine ck_nzL ?_; simp; done) | (with_reducible refine vp_in_nI ?_ ?_ <;> first | omega | decide) | (with_reducible refine Nat.le_of_ble_eq_true ?_; rfl) | omega | exact Or.inl trivial | exact Or.inr trivial | exact Or.inl rfl | exact Or.inr rfl)
  · intro zc1
    first | exact absurd rfl zc1 | exact absurd zc1 (by decide) | exact absurd (by decide) zc1 | (exfalso; first | exact vp_in_nI (n := i) (N := n) hi hn (Or.inl zc1) | exact absurd ((nI_ltI (a := i) (b := n) (by omega) (by omega)).mpr (by omega)) zc6) | (exfalso; simp_all; done)
  · intro zc1
    with_reducible first | have ze1 := Int32.not_lt.mp zc1 | have ze1 := zc1
    refine hB bJ3_checkIndex_8e157_4 _ _ _ _ _ _ _ kJ3_checkIndex_8e157_4 ?_
    dsimp only [bJ3_checkIndex_8e157_4, kx_wp, kx_step, kx_lI, kx_lL, kx_lA, kx_gl, kx_pI, kx_pL, kx_pR, kx_pA, kx_pV, kx_s1, kx_s2, kx_sl, kx_pre, kx_c2, kx_pl, kx_cmp, kx_oF, kx_eqN, kx_nil, kx_c1, kx_ft, kx_aI, kx_aL, kx_aR, kx_ln, Nat.reduceAdd, Option.toList, List.cons_append, List.nil_append]
    repeat (simp only [ks_eq, ks_ss]; try dsimp only [kx_wp, kx_step, kx_lI, kx_lL, kx_lA, kx_gl, kx_pI, kx_pL, kx_pR, kx_pA, kx_pV, kx_s1, kx_s2, kx_sl, kx_pre, kx_c2, kx_pl, kx_cmp, kx_oF, kx_eqN, kx_nil, kx_c1, kx_ft, kx_aI, kx_aL, kx_aR, kx_ln, Nat.reduceAdd, Option.toList, List.cons_append, List.nil_append])
    repeat' apply And.intro
    all_goals try (first | with_reducible assumption | (with_reducible refine ck_nzI ?_; simp; done) | (with_reducible refine ck_nzL ?_; simp; done) | (with_reducible refine vp_in_nI ?_ ?_ <;> first | omega | decide) | (with_reducible refine Nat.le_of_ble_eq_true ?_; rfl) | omega | exact Or.inl trivial | exact Or.inr trivial | exact Or.inl rfl | exact Or.inr rfl)
    · intro zc6
      with_reducible first | have ze6 := Int32.not_le.mpr zc6 | have ze6 := zc6
      refine hB bJ3_checkIndex_8e157_16 _ _ _ _ _ _ _ kJ3_checkIndex_8e157_16 ?_
      dsimp only [bJ3_checkIndex_8e157_16, kx_wp, kx_step, kx_lI, kx_lL, kx_lA, kx_gl, kx_pI, kx_pL, kx_pR, kx_pA, kx_pV, kx_s1, kx_s2, kx_sl, kx_pre, kx_c2, kx_pl, kx_cmp, kx_oF, kx_eqN, kx_nil, kx_c1, kx_ft, kx_aI, kx_aL, kx_aR, kx_ln, Nat.reduceAdd, Option.toList, List.cons_append, List.nil_append]
      repeat (simp only [ks_eq, ks_ss]; try dsimp only [kx_wp, kx_step, kx_lI, kx_lL, kx_lA, kx_gl, kx_pI, kx_pL, kx_pR, kx_pA, kx_pV, kx_s1, kx_s2, kx_sl, kx_pre, kx_c2, kx_pl, kx_cmp, kx_oF, kx_eqN, kx_nil, kx_c1, kx_ft, kx_aI, kx_aL, kx_aR, kx_ln, Nat.reduceAdd, Option.toList, List.cons_append, List.nil_append])
      all_goals (repeat' apply And.intro)
      all_goals ((try clear hB hC); first | exact True.intro | with_reducible rfl | with_reducible assumption | (with_reducible refine vp_in_nI ?_ ?_ <;> first | omega | decide) | exact Nat.le_of_ble_eq_true rfl | (with_reducible refine ck_nzI ?_; simp; done) | (with_reducible refine ck_nzL ?_; simp; done) | (simp only [pk_us, pk_uLs, zc1, ze1, zc6, ze6, ↓reduceIte, not_true_eq_false, not_false_eq_true]; done) | (simp only [zc1, ze1, zc6, ze6, ↓reduceIte, not_true_eq_false, not_false_eq_true]; with_reducible rfl) | omega | skip)
    · intro zc6
      first | exact absurd rfl zc6 | exact absurd zc6 (by decide) | exact absurd (by decide) zc6 | (exfalso; first | exact vp_in_nI (n := i) (N := n) hi hn (Or.inl zc1) | exact absurd ((nI_ltI (a := i) (b := n) (by omega) (by omega)).mpr (by omega)) zc6) | (exfalso; simp_all; done)

theorem kz_chk {l : Launch} {G : kx_G} {L : kx_L} {ini : Bool} {cc : ByteArray} {d mc ms : Nat} {g : kx_F} (h : kz_pz l G L ini cc d mc ms g) {ix iy pc : Nat} (hl : Cond.fieldLink L.1 ix "jdk/internal/util/Preconditions" "SIOOBE_FORMATTER" "Ljava/util/function/BiFunction;" ∈ kx_ws) (hc : kx_lS L.1 iy sJ3_checkIndex_8e157 3) (hd1 : decode cc pc = .ok (.getstatic ix, 3)) (hd2 : decode cc (pc + 3) = .ok (.invokestatic iy, 3)) {i n' : Nat} (hi : i < n') (hn' : n' < 2 ^ 31) (hdd : 1 < d) {ls : List (Option Value)} {st : List Value} {P : kx_P} {sz k n : Nat} (hcat : (st.map fun v => v.category).sum ≤ 8) (kk : g (pc + 6) ls (.int (nI i) :: st) P sz k n) : g pc ls (.int (nI n') :: .int (nI i) :: st) P sz k n := by
  obtain ⟨p, e, s, m, args, below, meth, c, Q, rfl, hexec, hb, hown, hts, hK, hL, hini, hR1, hR2⟩ := h
  intro lsr H locs hlen9 hls hW hlo hkc hks
  have hv : ∃ v, va_Z "jdk/internal/util/Preconditions" "SIOOBE_FORMATTER" "Ljava/util/function/BiFunction;" v (fun q => G.2.2.2.1.size ≤ q) s G.2.2.2.1 ∧ v.category = 1 := by
    rcases (kz_K2 hK).2.2.1 with h | ⟨t, h⟩
    · exact ⟨_, h, rfl⟩
    · exact ⟨_, h, rfl⟩
  obtain ⟨v, hz, hv1⟩ := hv
  refine kz_gst hexec hb hown (kz_stat hz hW) (hts _ hl) hd1 ?_
  obtain ⟨l1, l2, l4, l5, l6, l7, l8⟩ := hc
  have cw : CallB (kx_rm d mc ms) s args L.1 iy sJ3_checkIndex_8e157.1 sJ3_checkIndex_8e157.2.1 sJ3_checkIndex_8e157.2.2.1 sJ3_checkIndex_8e157.2.2.2 (kx_W0 sJ3_checkIndex_8e157) (kx_rm 1 0 0) 0 0 3 ∧ (Cond.static sJ3_checkIndex_8e157.1).before args s = true :=
    ⟨callB_of 3 hts (kx_ow hts l4) rfl rfl rfl (hts _ l5) (hts _ l1) ⟨l6, l7, l8⟩ ⟨hdd, by show 8 + (3 + 11) + (64 * 1 + 64) ≤ 64 * d + 64; omega⟩, hts _ l2⟩
  refine kx_aftn (Po := fun r P2 s2 => r = some (.int (nI i)) ∧ P2 = P ∧ s2 = sz) (va_runS (As := [.int (nI i), .int (nI n'), v]) (rest := st.map (kx_v G.2.1)) ⟨hexec, hb, hlen9.symm, hown, hts⟩ (ct_J3_checkIndex_8e157 l G (P := P) (sz := sz) hv1 hi hn') cw ⟨kz_blind _ _ _ _, fun U hU hWm => ⟨rfl, by rw [hU]; exact hW, kx_K.moved hWm hK⟩⟩ rfl rfl hls.1 rfl (lv_room (by rw [kx_cats]; exact hcat)) hd2 ⟨hkc, hks⟩) hlo fun r P' sz' hp H1 locs1 hW1 hl1 => ?_
  obtain ⟨rfl, rfl, rfl⟩ := hp
  exact kk lsr H1 locs1 hlen9 hls hW1 hl1 hkc hks
def bJ0_checkIndex_df160_0 : List kx_O := [(.iload_n 0, 0, 0, 0, .null), (.iload_n 1, 1, 0, 0, .null)]
theorem kJ0_checkIndex_df160_0 : kx_oks kxL_J0 false cJ0_checkIndex_df160 0 bJ0_checkIndex_df160_0 = true := by decide +kernel
def bJ0_checkIndex_df160_8 : List kx_O := [(.pop, 0, 0, 0, .null), (.return_, 0, 0, 0, .null)]
theorem kJ0_checkIndex_df160_8 : kx_oks kxL_J0 false cJ0_checkIndex_df160 8 bJ0_checkIndex_df160_8 = true := by decide +kernel
theorem dJ0_checkIndex_df160_2 : decode cJ0_checkIndex_df160 2 = .ok (.getstatic 1053, 3) := by decide +kernel
theorem dJ0_checkIndex_df160_5 : decode cJ0_checkIndex_df160 5 = .ok (.invokestatic 1059, 3) := by decide +kernel
set_option maxRecDepth 100000 in
set_option maxHeartbeats 4000000 in
theorem ct_J0_checkIndex_df160 (l : Launch) (G : kx_G) {P : kx_P} {sz : Nat} {i n : Nat} (hi : i < n) (hn : n < 2 ^ 31)  : kx_M l G sJ0_checkIndex_df160 2 0 0 [.int (nI i), .int (nI n)] P sz none P sz := by
  refine kz_m2d kx_tab kxLok_J0 (ini := false) [some (.int (nI i)), some (.int (nI n))] ⟨by decide +kernel, rfl, by decide, by decide⟩ (Or.inl rfl) rfl rfl (fun g hB hC hK => ?_)
  refine hB bJ0_checkIndex_df160_0 _ _ _ _ _ _ _ kJ0_checkIndex_df160_0 ?_
  dsimp only [bJ0_checkIndex_df160_0, kx_wp, kx_step, kx_lI, kx_lL, kx_lA, kx_gl, kx_pI, kx_pL, kx_pR, kx_pA, kx_pV, kx_s1, kx_s2, kx_sl, kx_pre, kx_c2, kx_pl, kx_cmp, kx_oF, kx_eqN, kx_nil, kx_c1, kx_ft, kx_aI, kx_aL, kx_aR, kx_ln, Nat.reduceAdd, Option.toList, List.cons_append, List.nil_append]
  repeat (simp only [ks_eq, ks_ss]; try dsimp only [kx_wp, kx_step, kx_lI, kx_lL, kx_lA, kx_gl, kx_pI, kx_pL, kx_pR, kx_pA, kx_pV, kx_s1, kx_s2, kx_sl, kx_pre, kx_c2, kx_pl, kx_cmp, kx_oF, kx_eqN, kx_nil, kx_c1, kx_ft, kx_aI, kx_aL, kx_aR, kx_ln, Nat.reduceAdd, Option.toList, List.cons_append, List.nil_append])
  repeat' apply And.intro
  all_goals try (first | with_reducible assumption | (with_reducible refine ck_nzI ?_; simp; done) | (with_reducible refine ck_nzL ?_; simp; done) | (with_reducible refine vp_in_nI ?_ ?_ <;> first | omega | decide) | (with_reducible refine Nat.le_of_ble_eq_true ?_; rfl) | omega | exact Or.inl trivial | exact Or.inr trivial | exact Or.inl rfl | exact Or.inr rfl)
  refine kz_chk hK (kx_at_l kz_sw 3 rfl) lJ0_1059 dJ0_checkIndex_df160_2 dJ0_checkIndex_df160_5 hi hn (by decide) (Nat.le_of_ble_eq_true rfl) ?_
  skip
  refine hB bJ0_checkIndex_df160_8 _ _ _ _ _ _ _ kJ0_checkIndex_df160_8 ?_
  dsimp only [bJ0_checkIndex_df160_8, kx_wp, kx_step, kx_lI, kx_lL, kx_lA, kx_gl, kx_pI, kx_pL, kx_pR, kx_pA, kx_pV, kx_s1, kx_s2, kx_sl, kx_pre, kx_c2, kx_pl, kx_cmp, kx_oF, kx_eqN, kx_nil, kx_c1, kx_ft, kx_aI, kx_aL, kx_aR, kx_ln, Nat.reduceAdd, Option.toList, List.cons_append, List.nil_append]
  repeat (simp only [ks_eq, ks_ss]; try dsimp only [kx_wp, kx_step, kx_lI, kx_lL, kx_lA, kx_gl, kx_pI, kx_pL, kx_pR, kx_pA, kx_pV, kx_s1, kx_s2, kx_sl, kx_pre, kx_c2, kx_pl, kx_cmp, kx_oF, kx_eqN, kx_nil, kx_c1, kx_ft, kx_aI, kx_aL, kx_aR, kx_ln, Nat.reduceAdd, Option.toList, List.cons_append, List.nil_append])
  all_goals (repeat' apply And.intro)
  all_goals ((try clear hB hC); first | exact True.intro | with_reducible rfl | with_reducible assumption | (with_reducible refine vp_in_nI ?_ ?_ <;> first | omega | decide) | exact Nat.le_of_ble_eq_true rfl | (with_reducible refine ck_nzI ?_; simp; done) | (with_reducible refine ck_nzL ?_; simp; done) | (simp only [pk_us, pk_uLs, ↓reduceIte, not_true_eq_false, not_false_eq_true]; done) | (simp only [↓reduceIte, not_true_eq_false, not_false_eq_true]; with_reducible rfl) | omega | skip)

def bJ1_charAt_3b067_0 : List kx_O := [(.iload_n 1, 1, 0, 0, .null), (.aload_n 0, 0, 0, 0, .null)]
theorem kJ1_charAt_3b067_0 : kx_oks kxL_J1 false cJ1_charAt_3b067 0 bJ1_charAt_3b067_0 = true := by decide +kernel
def bJ1_charAt_3b067_6 : List kx_O := [(.aload_n 0, 0, 0, 0, .null), (.iload_n 1, 1, 0, 0, .null)]
theorem kJ1_charAt_3b067_6 : kx_oks kxL_J1 false cJ1_charAt_3b067 6 bJ1_charAt_3b067_6 = true := by decide +kernel
def bJ1_charAt_3b067_9 : List kx_O := [(.sipush 255, 0, 0, 0, .int 255), (.iand, 0, 0, 0, .null)]
theorem kJ1_charAt_3b067_9 : kx_oks kxL_J1 false cJ1_charAt_3b067 9 bJ1_charAt_3b067_9 = true := by decide +kernel
def bJ1_charAt_3b067_14 : List kx_O := [(.ireturn, 0, 0, 0, .null)]
theorem kJ1_charAt_3b067_14 : kx_oks kxL_J1 false cJ1_charAt_3b067 14 bJ1_charAt_3b067_14 = true := by decide +kernel
theorem dJ1_charAt_3b067_2 : decode cJ1_charAt_3b067 2 = .ok (.arraylength, 1) := by decide +kernel
theorem dJ1_charAt_3b067_3 : decode cJ1_charAt_3b067 3 = .ok (.invokestatic 9, 3) := by decide +kernel
theorem dJ1_charAt_3b067_8 : decode cJ1_charAt_3b067 8 = .ok (.baload, 1) := by decide +kernel
theorem dJ1_charAt_3b067_13 : decode cJ1_charAt_3b067 13 = .ok (.i2c, 1) := by decide +kernel
set_option maxRecDepth 100000 in
set_option maxHeartbeats 4000000 in
theorem ct_J1_charAt_3b067 (l : Launch) (G : kx_G) {P : kx_P} {sz : Nat} {i : Nat} (hi : i < 23) {j : Nat} (hj : j < (kz_by i).length)  : kx_M l G sJ1_charAt_3b067 3 0 0 [.ref (31 + i), .int (nI j)] P sz (some (.int ((kz_by i).getD j 0))) P sz := by
  refine kz_m2d kx_tab kxLok_J1 (ini := false) [some (.ref (31 + i)), some (.int (nI j))] ⟨by decide +kernel, rfl, by decide, by decide⟩ (Or.inr ⟨_, _, rfl, rfl, kz_nar hi hj⟩) rfl rfl (fun g hB hC hK => ?_)
  refine hB bJ1_charAt_3b067_0 _ _ _ _ _ _ _ kJ1_charAt_3b067_0 ?_
  dsimp only [bJ1_charAt_3b067_0, kx_wp, kx_step, kx_lI, kx_lL, kx_lA, kx_gl, kx_pI, kx_pL, kx_pR, kx_pA, kx_pV, kx_s1, kx_s2, kx_sl, kx_pre, kx_c2, kx_pl, kx_cmp, kx_oF, kx_eqN, kx_nil, kx_c1, kx_ft, kx_aI, kx_aL, kx_aR, kx_ln, Nat.reduceAdd, Option.toList, List.cons_append, List.nil_append]
  repeat (simp only [ks_eq, ks_ss]; try dsimp only [kx_wp, kx_step, kx_lI, kx_lL, kx_lA, kx_gl, kx_pI, kx_pL, kx_pR, kx_pA, kx_pV, kx_s1, kx_s2, kx_sl, kx_pre, kx_c2, kx_pl, kx_cmp, kx_oF, kx_eqN, kx_nil, kx_c1, kx_ft, kx_aI, kx_aL, kx_aR, kx_ln, Nat.reduceAdd, Option.toList, List.cons_append, List.nil_append])
  repeat' apply And.intro
  all_goals try (first | with_reducible assumption | (with_reducible refine ck_nzI ?_; simp; done) | (with_reducible refine ck_nzL ?_; simp; done) | (with_reducible refine vp_in_nI ?_ ?_ <;> first | omega | decide) | (with_reducible refine Nat.le_of_ble_eq_true ?_; rfl) | omega | exact Or.inl trivial | exact Or.inr trivial | exact Or.inl rfl | exact Or.inr rfl)
  refine kz_alb hK i hi dJ1_charAt_3b067_2 ?_
  refine hC.2.1 9 _ _ _ _ _ _ _ _ _ _ _ _ _ _ _ _ _ lJ1_9 (ct_J0_checkIndex_df160 l G hj (Nat.lt_trans (kz_byl i) (by decide))) rfl rfl (Nat.le_of_ble_eq_true rfl) (by first | decide | omega) (by decide) (by omega) (by omega) dJ1_charAt_3b067_3 ?_
  refine hB bJ1_charAt_3b067_6 _ _ _ _ _ _ _ kJ1_charAt_3b067_6 ?_
  dsimp only [bJ1_charAt_3b067_6, kx_wp, kx_step, kx_lI, kx_lL, kx_lA, kx_gl, kx_pI, kx_pL, kx_pR, kx_pA, kx_pV, kx_s1, kx_s2, kx_sl, kx_pre, kx_c2, kx_pl, kx_cmp, kx_oF, kx_eqN, kx_nil, kx_c1, kx_ft, kx_aI, kx_aL, kx_aR, kx_ln, Nat.reduceAdd, Option.toList, List.cons_append, List.nil_append]
  repeat (simp only [ks_eq, ks_ss]; try dsimp only [kx_wp, kx_step, kx_lI, kx_lL, kx_lA, kx_gl, kx_pI, kx_pL, kx_pR, kx_pA, kx_pV, kx_s1, kx_s2, kx_sl, kx_pre, kx_c2, kx_pl, kx_cmp, kx_oF, kx_eqN, kx_nil, kx_c1, kx_ft, kx_aI, kx_aL, kx_aR, kx_ln, Nat.reduceAdd, Option.toList, List.cons_append, List.nil_append])
  repeat' apply And.intro
  all_goals try (first | with_reducible assumption | (with_reducible refine ck_nzI ?_; simp; done) | (with_reducible refine ck_nzL ?_; simp; done) | (with_reducible refine vp_in_nI ?_ ?_ <;> first | omega | decide) | (with_reducible refine Nat.le_of_ble_eq_true ?_; rfl) | omega | exact Or.inl trivial | exact Or.inr trivial | exact Or.inl rfl | exact Or.inr rfl)
  refine kz_bal hK i j hi hj dJ1_charAt_3b067_8 ?_
  refine hB bJ1_charAt_3b067_9 _ _ _ _ _ _ _ kJ1_charAt_3b067_9 ?_
  dsimp only [bJ1_charAt_3b067_9, kx_wp, kx_step, kx_lI, kx_lL, kx_lA, kx_gl, kx_pI, kx_pL, kx_pR, kx_pA, kx_pV, kx_s1, kx_s2, kx_sl, kx_pre, kx_c2, kx_pl, kx_cmp, kx_oF, kx_eqN, kx_nil, kx_c1, kx_ft, kx_aI, kx_aL, kx_aR, kx_ln, Nat.reduceAdd, Option.toList, List.cons_append, List.nil_append]
  repeat (simp only [ks_eq, ks_ss]; try dsimp only [kx_wp, kx_step, kx_lI, kx_lL, kx_lA, kx_gl, kx_pI, kx_pL, kx_pR, kx_pA, kx_pV, kx_s1, kx_s2, kx_sl, kx_pre, kx_c2, kx_pl, kx_cmp, kx_oF, kx_eqN, kx_nil, kx_c1, kx_ft, kx_aI, kx_aL, kx_aR, kx_ln, Nat.reduceAdd, Option.toList, List.cons_append, List.nil_append])
  repeat' apply And.intro
  all_goals try (first | with_reducible assumption | (with_reducible refine ck_nzI ?_; simp; done) | (with_reducible refine ck_nzL ?_; simp; done) | (with_reducible refine vp_in_nI ?_ ?_ <;> first | omega | decide) | (with_reducible refine Nat.le_of_ble_eq_true ?_; rfl) | omega | exact Or.inl trivial | exact Or.inr trivial | exact Or.inl rfl | exact Or.inr rfl)
  refine kz_i2c hK dJ1_charAt_3b067_13 ((kz_by i).getD j 0) (kz_bych ⟨i, hi⟩ ⟨j, Nat.lt_trans hj (kz_byl i)⟩) ?_
  refine hB bJ1_charAt_3b067_14 _ _ _ _ _ _ _ kJ1_charAt_3b067_14 ?_
  dsimp only [bJ1_charAt_3b067_14, kx_wp, kx_step, kx_lI, kx_lL, kx_lA, kx_gl, kx_pI, kx_pL, kx_pR, kx_pA, kx_pV, kx_s1, kx_s2, kx_sl, kx_pre, kx_c2, kx_pl, kx_cmp, kx_oF, kx_eqN, kx_nil, kx_c1, kx_ft, kx_aI, kx_aL, kx_aR, kx_ln, Nat.reduceAdd, Option.toList, List.cons_append, List.nil_append]
  repeat (simp only [ks_eq, ks_ss]; try dsimp only [kx_wp, kx_step, kx_lI, kx_lL, kx_lA, kx_gl, kx_pI, kx_pL, kx_pR, kx_pA, kx_pV, kx_s1, kx_s2, kx_sl, kx_pre, kx_c2, kx_pl, kx_cmp, kx_oF, kx_eqN, kx_nil, kx_c1, kx_ft, kx_aI, kx_aL, kx_aR, kx_ln, Nat.reduceAdd, Option.toList, List.cons_append, List.nil_append])
  all_goals (repeat' apply And.intro)
  all_goals ((try clear hB hC); first | exact True.intro | with_reducible rfl | with_reducible assumption | (with_reducible refine vp_in_nI ?_ ?_ <;> first | omega | decide) | exact Nat.le_of_ble_eq_true rfl | (with_reducible refine ck_nzI ?_; simp; done) | (with_reducible refine ck_nzL ?_; simp; done) | (simp only [pk_us, pk_uLs, ↓reduceIte, not_true_eq_false, not_false_eq_true]; done) | (simp only [↓reduceIte, not_true_eq_false, not_false_eq_true]; with_reducible rfl) | omega | skip)

def bJ0_charAt_5068e_0 : List kx_O := [(.aload_n 0, 0, 0, 0, .null)]
theorem kJ0_charAt_5068e_0 : kx_oks kxL_J0 false cJ0_charAt_5068e 0 bJ0_charAt_5068e_0 = true := by decide +kernel
def bJ0_charAt_5068e_4 : List kx_O := [(.ifCond .eq 12, 16, 0, 0, .null)]
theorem kJ0_charAt_5068e_4 : kx_oks kxL_J0 false cJ0_charAt_5068e 4 bJ0_charAt_5068e_4 = true := by decide +kernel
def bJ0_charAt_5068e_7 : List kx_O := [(.aload_n 0, 0, 0, 0, .null)]
theorem kJ0_charAt_5068e_7 : kx_oks kxL_J0 false cJ0_charAt_5068e 7 bJ0_charAt_5068e_7 = true := by decide +kernel
def bJ0_charAt_5068e_11 : List kx_O := [(.iload_n 1, 1, 0, 0, .null)]
theorem kJ0_charAt_5068e_11 : kx_oks kxL_J0 false cJ0_charAt_5068e 11 bJ0_charAt_5068e_11 = true := by decide +kernel
def bJ0_charAt_5068e_15 : List kx_O := [(.ireturn, 0, 0, 0, .null)]
theorem kJ0_charAt_5068e_15 : kx_oks kxL_J0 false cJ0_charAt_5068e 15 bJ0_charAt_5068e_15 = true := by decide +kernel
def bJ0_charAt_5068e_16 : List kx_O := [(.aload_n 0, 0, 0, 0, .null)]
theorem kJ0_charAt_5068e_16 : kx_oks kxL_J0 false cJ0_charAt_5068e 16 bJ0_charAt_5068e_16 = true := by decide +kernel
def bJ0_charAt_5068e_20 : List kx_O := [(.iload_n 1, 1, 0, 0, .null)]
theorem kJ0_charAt_5068e_20 : kx_oks kxL_J0 false cJ0_charAt_5068e 20 bJ0_charAt_5068e_20 = true := by decide +kernel
def bJ0_charAt_5068e_24 : List kx_O := [(.ireturn, 0, 0, 0, .null)]
theorem kJ0_charAt_5068e_24 : kx_oks kxL_J0 false cJ0_charAt_5068e 24 bJ0_charAt_5068e_24 = true := by decide +kernel
theorem dJ0_charAt_5068e_1 : decode cJ0_charAt_5068e 1 = .ok (.invokevirtual 492, 3) := by decide +kernel
theorem dJ0_charAt_5068e_8 : decode cJ0_charAt_5068e 8 = .ok (.getfield 9, 3) := by decide +kernel
theorem dJ0_charAt_5068e_12 : decode cJ0_charAt_5068e 12 = .ok (.invokestatic 495, 3) := by decide +kernel
theorem dJ0_charAt_5068e_17 : decode cJ0_charAt_5068e 17 = .ok (.getfield 9, 3) := by decide +kernel
theorem dJ0_charAt_5068e_21 : decode cJ0_charAt_5068e 21 = .ok (.invokestatic 498, 3) := by decide +kernel
set_option maxRecDepth 100000 in
set_option maxHeartbeats 4000000 in
theorem ct_J0_charAt_5068e (l : Launch) (G : kx_G) {P : kx_P} {sz : Nat} {i : Nat} (hi : i < 23) {j : Nat} (hj : j < (kz_by i).length)  : kx_M l G sJ0_charAt_5068e 4 0 0 [.ref (8 + i), .int (nI j)] P sz (some (.int ((kz_by i).getD j 0))) P sz := by
  refine kz_m2d kx_tab kxLok_J0 (ini := false) [some (.ref (8 + i)), some (.int (nI j))] ⟨by decide +kernel, rfl, by decide, by decide⟩ (Or.inr ⟨_, _, rfl, rfl, kz_nar hi hj⟩) rfl rfl (fun g hB hC hK => ?_)
  refine hB bJ0_charAt_5068e_0 _ _ _ _ _ _ _ kJ0_charAt_5068e_0 ?_
  dsimp only [bJ0_charAt_5068e_0, kx_wp, kx_step, kx_lI, kx_lL, kx_lA, kx_gl, kx_pI, kx_pL, kx_pR, kx_pA, kx_pV, kx_s1, kx_s2, kx_sl, kx_pre, kx_c2, kx_pl, kx_cmp, kx_oF, kx_eqN, kx_nil, kx_c1, kx_ft, kx_aI, kx_aL, kx_aR, kx_ln, Nat.reduceAdd, Option.toList, List.cons_append, List.nil_append]
  repeat (simp only [ks_eq, ks_ss]; try dsimp only [kx_wp, kx_step, kx_lI, kx_lL, kx_lA, kx_gl, kx_pI, kx_pL, kx_pR, kx_pA, kx_pV, kx_s1, kx_s2, kx_sl, kx_pre, kx_c2, kx_pl, kx_cmp, kx_oF, kx_eqN, kx_nil, kx_c1, kx_ft, kx_aI, kx_aL, kx_aR, kx_ln, Nat.reduceAdd, Option.toList, List.cons_append, List.nil_append])
  repeat' apply And.intro
  all_goals try (first | with_reducible assumption | (with_reducible refine ck_nzI ?_; simp; done) | (with_reducible refine ck_nzL ?_; simp; done) | (with_reducible refine vp_in_nI ?_ ?_ <;> first | omega | decide) | (with_reducible refine Nat.le_of_ble_eq_true ?_; rfl) | omega | exact Or.inl trivial | exact Or.inr trivial | exact Or.inl rfl | exact Or.inr rfl)
  refine kz_cal hK i lJ0_492 (ct_J0_isLatin1_aae02 l G hi) rfl hi rfl rfl (Nat.le_of_ble_eq_true rfl) (by decide) (by decide) (by omega) (by omega) dJ0_charAt_5068e_1 ?_
  dsimp only [Option.toList, List.cons_append, List.nil_append]
  refine hB bJ0_charAt_5068e_4 _ _ _ _ _ _ _ kJ0_charAt_5068e_4 ?_
  dsimp only [bJ0_charAt_5068e_4, kx_wp, kx_step, kx_lI, kx_lL, kx_lA, kx_gl, kx_pI, kx_pL, kx_pR, kx_pA, kx_pV, kx_s1, kx_s2, kx_sl, kx_pre, kx_c2, kx_pl, kx_cmp, kx_oF, kx_eqN, kx_nil, kx_c1, kx_ft, kx_aI, kx_aL, kx_aR, kx_ln, Nat.reduceAdd, Option.toList, List.cons_append, List.nil_append]
  repeat (simp only [ks_eq, ks_ss]; try dsimp only [kx_wp, kx_step, kx_lI, kx_lL, kx_lA, kx_gl, kx_pI, kx_pL, kx_pR, kx_pA, kx_pV, kx_s1, kx_s2, kx_sl, kx_pre, kx_c2, kx_pl, kx_cmp, kx_oF, kx_eqN, kx_nil, kx_c1, kx_ft, kx_aI, kx_aL, kx_aR, kx_ln, Nat.reduceAdd, Option.toList, List.cons_append, List.nil_append])
  repeat' apply And.intro
  all_goals try (first | with_reducible assumption | (with_reducible refine ck_nzI ?_; simp; done) | (with_reducible refine ck_nzL ?_; simp; done) | (with_reducible refine vp_in_nI ?_ ?_ <;> first | omega | decide) | (with_reducible refine Nat.le_of_ble_eq_true ?_; rfl) | omega | exact Or.inl trivial | exact Or.inr trivial | exact Or.inl rfl | exact Or.inr rfl)
  · intro zc4
    first | exact absurd rfl zc4 | exact absurd zc4 (by decide) | exact absurd (by decide) zc4 | (exfalso; ((try clear hB hC); simp only [ck_lt, ck_le, ck_eq, not_true_eq_false, not_false_eq_true, Int32.reduceToInt, Int32.reduceAdd, Int32.reduceSub, Int32.reduceMul] at * <;> omega)) | (exfalso; simp_all; done)
  · intro zc4
    have ze4 := zc4
    refine hB bJ0_charAt_5068e_7 _ _ _ _ _ _ _ kJ0_charAt_5068e_7 ?_
    dsimp only [bJ0_charAt_5068e_7, kx_wp, kx_step, kx_lI, kx_lL, kx_lA, kx_gl, kx_pI, kx_pL, kx_pR, kx_pA, kx_pV, kx_s1, kx_s2, kx_sl, kx_pre, kx_c2, kx_pl, kx_cmp, kx_oF, kx_eqN, kx_nil, kx_c1, kx_ft, kx_aI, kx_aL, kx_aR, kx_ln, Nat.reduceAdd, Option.toList, List.cons_append, List.nil_append]
    repeat (simp only [ks_eq, ks_ss]; try dsimp only [kx_wp, kx_step, kx_lI, kx_lL, kx_lA, kx_gl, kx_pI, kx_pL, kx_pR, kx_pA, kx_pV, kx_s1, kx_s2, kx_sl, kx_pre, kx_c2, kx_pl, kx_cmp, kx_oF, kx_eqN, kx_nil, kx_c1, kx_ft, kx_aI, kx_aL, kx_aR, kx_ln, Nat.reduceAdd, Option.toList, List.cons_append, List.nil_append])
    repeat' apply And.intro
    all_goals try (first | with_reducible assumption | (with_reducible refine ck_nzI ?_; simp; done) | (with_reducible refine ck_nzL ?_; simp; done) | (with_reducible refine vp_in_nI ?_ ?_ <;> first | omega | decide) | (with_reducible refine Nat.le_of_ble_eq_true ?_; rfl) | omega | exact Or.inl trivial | exact Or.inr trivial | exact Or.inl rfl | exact Or.inr rfl)
    refine kz_fval hK i hi (kx_at_l kz_sw 0 rfl) dJ0_charAt_5068e_8 ?_
    refine hB bJ0_charAt_5068e_11 _ _ _ _ _ _ _ kJ0_charAt_5068e_11 ?_
    dsimp only [bJ0_charAt_5068e_11, kx_wp, kx_step, kx_lI, kx_lL, kx_lA, kx_gl, kx_pI, kx_pL, kx_pR, kx_pA, kx_pV, kx_s1, kx_s2, kx_sl, kx_pre, kx_c2, kx_pl, kx_cmp, kx_oF, kx_eqN, kx_nil, kx_c1, kx_ft, kx_aI, kx_aL, kx_aR, kx_ln, Nat.reduceAdd, Option.toList, List.cons_append, List.nil_append]
    repeat (simp only [ks_eq, ks_ss]; try dsimp only [kx_wp, kx_step, kx_lI, kx_lL, kx_lA, kx_gl, kx_pI, kx_pL, kx_pR, kx_pA, kx_pV, kx_s1, kx_s2, kx_sl, kx_pre, kx_c2, kx_pl, kx_cmp, kx_oF, kx_eqN, kx_nil, kx_c1, kx_ft, kx_aI, kx_aL, kx_aR, kx_ln, Nat.reduceAdd, Option.toList, List.cons_append, List.nil_append])
    repeat' apply And.intro
    all_goals try (first | with_reducible assumption | (with_reducible refine ck_nzI ?_; simp; done) | (with_reducible refine ck_nzL ?_; simp; done) | (with_reducible refine vp_in_nI ?_ ?_ <;> first | omega | decide) | (with_reducible refine Nat.le_of_ble_eq_true ?_; rfl) | omega | exact Or.inl trivial | exact Or.inr trivial | exact Or.inl rfl | exact Or.inr rfl)
    refine hC.2.1 495 _ _ _ _ _ _ _ _ _ _ _ _ _ _ _ _ _ lJ0_495 (ct_J1_charAt_3b067 l G hi hj) rfl rfl (Nat.le_of_ble_eq_true rfl) (by first | decide | omega) (by decide) (by omega) (by omega) dJ0_charAt_5068e_12 ?_
    refine hB bJ0_charAt_5068e_15 _ _ _ _ _ _ _ kJ0_charAt_5068e_15 ?_
    dsimp only [bJ0_charAt_5068e_15, kx_wp, kx_step, kx_lI, kx_lL, kx_lA, kx_gl, kx_pI, kx_pL, kx_pR, kx_pA, kx_pV, kx_s1, kx_s2, kx_sl, kx_pre, kx_c2, kx_pl, kx_cmp, kx_oF, kx_eqN, kx_nil, kx_c1, kx_ft, kx_aI, kx_aL, kx_aR, kx_ln, Nat.reduceAdd, Option.toList, List.cons_append, List.nil_append]
    repeat (simp only [ks_eq, ks_ss]; try dsimp only [kx_wp, kx_step, kx_lI, kx_lL, kx_lA, kx_gl, kx_pI, kx_pL, kx_pR, kx_pA, kx_pV, kx_s1, kx_s2, kx_sl, kx_pre, kx_c2, kx_pl, kx_cmp, kx_oF, kx_eqN, kx_nil, kx_c1, kx_ft, kx_aI, kx_aL, kx_aR, kx_ln, Nat.reduceAdd, Option.toList, List.cons_append, List.nil_append])
    all_goals (repeat' apply And.intro)
    all_goals ((try clear hB hC); first | exact True.intro | with_reducible rfl | with_reducible assumption | (with_reducible refine vp_in_nI ?_ ?_ <;> first | omega | decide) | exact Nat.le_of_ble_eq_true rfl | (with_reducible refine ck_nzI ?_; simp; done) | (with_reducible refine ck_nzL ?_; simp; done) | (simp only [pk_us, pk_uLs, ze4, ↓reduceIte, not_true_eq_false, not_false_eq_true]; done) | (simp only [ze4, ↓reduceIte, not_true_eq_false, not_false_eq_true]; with_reducible rfl) | omega | skip)


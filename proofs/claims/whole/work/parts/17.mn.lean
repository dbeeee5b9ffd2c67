/-! contracts with a relation behind: what comes back and the world behind it keep Po -/
def kx_Qn (G : kx_G) (Po : Option Value → kx_P → Nat → Prop) : Array Value → State → Outcome → State → Prop := fun _ _ o t => ∃ r P' sz', Po r P' sz' ∧ o = .returned (r.map (kx_v G.2.1)) ∧ kx_W G P' sz' t.heap
/-- as kx_M, with a relation -/
def kx_Mn (l : Launch) (G : kx_G) (y : kx_S) (d mc ms : Nat) (As : List Value) (P : kx_P) (sz : Nat) (Po : Option Value → kx_P → Nat → Prop) : Prop :=
  Met l y.1 (kx_W0 y) (kx_rm d mc ms) (kx_Pc G As P sz) (kx_Qn G Po) mc ms (fun q => G.2.2.2.1.size ≤ q)
def kx_rN (l : Launch) (G : kx_G) (own : String) (cc : ByteArray) (d mc ms : Nat) (g : kx_F) : Prop :=
  (∀ (idx : Nat) (y : kx_S) (na d' mc' ms' : Nat) (As : List Value) (b ci : Nat) (f : Nat → Value) (st : List Value) (pc : Nat) (ls : List (Option Value)) (P : kx_P) (sz k n : Nat) (Po : Option Value → kx_P → Nat → Prop) (stk : List Value),
    kx_lV own idx y na → kx_Mn l G y d' mc' ms' (.ref b :: As) P sz Po → ci < 12 ∧ kx_R ci = y.1.cls → P b = kO ci f → stk = As.reverse ++ .ref b :: st → As.length = na → (st.map fun v => v.category).sum ≤ 8 → d' < d → y.2.2.1 ≤ 45 → k + mc' ≤ mc → n + ms' ≤ ms → decode cc pc = .ok (.invokevirtual idx, 3) → (∀ r P' sz', Po r P' sz' → g (pc + 3) ls (r.toList ++ st) P' sz' (k + mc') (n + ms')) → g pc ls stk P sz k n) ∧
  (∀ (idx : Nat) (y : kx_S) (na d' mc' ms' : Nat) (As : List Value) (st : List Value) (pc : Nat) (ls : List (Option Value)) (P : kx_P) (sz k n : Nat) (Po : Option Value → kx_P → Nat → Prop) (stk : List Value),
    kx_lS own idx y na → kx_Mn l G y d' mc' ms' As P sz Po → stk = As.reverse ++ st → As.length = na → (st.map fun v => v.category).sum ≤ 8 → d' < d → y.2.2.1 ≤ 45 → k + mc' ≤ mc → n + ms' ≤ ms → decode cc pc = .ok (.invokestatic idx, 3) → (∀ r P' sz', Po r P' sz' → g (pc + 3) ls (r.toList ++ st) P' sz' (k + mc') (n + ms')) → g pc ls stk P sz k n) ∧
  (∀ (idx : Nat) (y : kx_S) (na d' mc' ms' : Nat) (As : List Value) (b : Nat) (st : List Value) (pc : Nat) (ls : List (Option Value)) (P : kx_P) (sz k n : Nat) (Po : Option Value → kx_P → Nat → Prop) (stk : List Value),
    (kx_lI' own idx y na ∨ ∃ host, kx_lN own idx host y na) → kx_Mn l G y d' mc' ms' (.ref b :: As) P sz Po → (∀ r P' sz', Po r P' sz' → r = none) → stk = As.reverse ++ .ref b :: st → As.length = na → (st.map fun v => v.category).sum ≤ 8 → d' < d → y.2.2.1 ≤ 45 → k + mc' ≤ mc → n + ms' ≤ ms → decode cc pc = .ok (.invokespecial idx, 3) → (∀ r P' sz', Po r P' sz' → g (pc + 3) ls st P' sz' (k + mc') (n + ms')) → g pc ls stk P sz k n)
theorem kx_M.n {l : Launch} {G : kx_G} {y : kx_S} {d mc ms : Nat} {As : List Value} {P : kx_P} {sz : Nat} {r : Option Value} {P' : kx_P} {sz' : Nat} (h : kx_M l G y d mc ms As P sz r P' sz') : kx_Mn l G y d mc ms As P sz (fun r2 P2 s2 => r2 = r ∧ P2 = P' ∧ s2 = sz') := by
  intro p e ha hc hk s m args below hf happ hP hK
  obtain ⟨n, o, h1, h2, h3, ⟨h4, h5⟩, h6⟩ := h p e ha hc hk s m args below hf happ hP hK
  exact ⟨n, o, h1, h2, h3, ⟨r, P', sz', ⟨rfl, rfl, rfl⟩, h4, h5⟩, h6⟩
theorem kx_Mn.imp {l : Launch} {G : kx_G} {y : kx_S} {d mc ms : Nat} {As : List Value} {P : kx_P} {sz : Nat} {Po Po2 : Option Value → kx_P → Nat → Prop} (h : kx_Mn l G y d mc ms As P sz Po) (hi : ∀ r P' sz', Po r P' sz' → Po2 r P' sz') : kx_Mn l G y d mc ms As P sz Po2 := by
  intro p e ha hc hk s m args below hf happ hP hK
  obtain ⟨n, o, h1, h2, h3, ⟨r, P', sz', h0, h4, h5⟩, h6⟩ := h p e ha hc hk s m args below hf happ hP hK
  exact ⟨n, o, h1, h2, h3, ⟨r, P', sz', hi _ _ _ h0, h4, h5⟩, h6⟩
/-- a relation that holds of one end alone -/
theorem kx_Mn.ex {l : Launch} {G : kx_G} {y : kx_S} {d mc ms : Nat} {As : List Value} {P : kx_P} {sz : Nat} {Po : Option Value → kx_P → Nat → Prop} {r : Option Value} {P' : kx_P} {sz' : Nat} (h : kx_M l G y d mc ms As P sz r P' sz') (hp : Po r P' sz') : kx_Mn l G y d mc ms As P sz Po :=
  h.n.imp (fun _ _ _ ⟨a, b, c⟩ => by rw [a, b, c]; exact hp)
section KXN
variable {p : Program} {l : Launch} {e : Env} {R : Room} {s : State} {m : MethodId} {args : Array Value} {below : List Frame} {meth : Method} {c : Code} {Q : State → Prop} {cc : ByteArray}

theorem kx_aftn {G : kx_G} {H : Heap} {locs : List Loc} {cells slots mc ms pc : Nat} {lsr : Array Slot} {st rest : List Value} {a : Array Value} {Po : Option Value → kx_P → Nat → Prop}
    (hr : va_Run p l e R s m args below meth c H locs cells slots mc ms (F0 m pc lsr st) rest (kx_Qn G Po a) (fun q => G.2.2.2.1.size ≤ q)) (hlo : ∀ q ∈ locs, G.2.2.2.1.size ≤ q.base)
    (kk : ∀ (r : Option Value) (P' : kx_P) (sz' : Nat), Po r P' sz' → ∀ (H1 : Heap) (locs1 : List Loc), kx_W G P' sz' H1 → (∀ q ∈ locs1, G.2.2.2.1.size ≤ q.base) → W p l e R s m args below meth c H1 locs1 (cells + mc) (slots + ms) Q (F0 m (pc + 3) lsr ((r.map (kx_v G.2.1)).toList ++ rest))) : W p l e R s m args below meth c H locs cells slots Q (F0 m pc lsr st) := by
  intro T hT X
  obtain ⟨v, st₀, t, T', L, h0, X', hL, e1, e2, ⟨r, P', sz', hp, hq1, hq2⟩, stp⟩ := hr T hT X
  cases hq1
  obtain ⟨t2, a1, b1⟩ := kk r P' sz' hp T'.heap (locs ++ L) (by rw [e1]; exact hq2) (fun q hq => by
    rcases List.mem_append.mp hq with h | h
    · exact hlo q h
    · exact hL q h) T' rfl X'
  exact ⟨t2, stp t2 a1, b1⟩

theorem kx_calln {G : kx_G} {L : kx_L} {ini : Bool} (B : kx_B p s m args meth c R G L ini cc) {d : Nat} (hRf : R.frames = d) (hRl : R.locals = 64 * d + 64) :
    kx_rN l G L.1 cc d R.cells R.slots (kx_g p l e R s m args below meth c Q G) := by
  obtain ⟨hexec, hb, hown, hts, hK, hL, hini, hR1, hR2⟩ := B
  refine ⟨?_, ?_, ?_⟩
  · intro idx y na d' mc' ms' As b ci f st pc ls P sz k n Po stk hl hM hci hPb hstk hlen hcat hdd hmx hk hn hd kk
    obtain ⟨l1, l2, l3, l4, l5, l6, l7, l8⟩ := hl
    intro lsr H locs hlen9 hls hW hlo hkc hks
    have cw : CallW R s args L.1 (kx_R ci) idx y.1 y.2.1 y.2.2.1 y.2.2.2 (kx_W0 y) (kx_rm d' mc' ms') mc' ms' na :=
      ⟨callB_of na hts (kx_ow hts l4) rfl rfl rfl (hts _ l5) (hts _ l1) ⟨l6, l7, l8⟩ ⟨by rw [hRf]; exact hdd, by rw [hRl]; show 8 + (y.2.2.1 + 11) + (64 * d' + 64) ≤ _; omega⟩, hts _ l2, by rw [hci.2]; exact hts _ l3⟩
    obtain ⟨r9, g0, cell, q1, q2, q3, -⟩ := hW.at hPb
    rw [kx_T_at hci.1] at g0
    cases g0
    have hrecv : ∃ cellB : Cell, H[G.2.1 b]? = some cellB ∧ cellB.vm.isStatics = false ∧ s.vm.findClass (kx_R ci) = some cellB.cls := ⟨cell, q1, by rw [q3]; rfl, by rw [q2]; exact (hK.1.1 ci _ (kx_T_at hci.1)).2.1⟩
    refine kx_aftn (va_runV (As := As.map (kx_v G.2.1)) (rest := st.map (kx_v G.2.1)) ⟨hexec, hb, hlen9.symm, hown, hts⟩ hM cw ⟨kx_blind _ _ _ _, hrecv, fun U hU hWm => ⟨rfl, by rw [hU]; exact hW, kx_K.moved hWm hK⟩⟩ rfl (by rw [List.length_map]; exact hlen) hls.1 (by rw [hstk]; simp [kx_v]) (lv_room (by rw [kx_cats]; exact hcat)) hd ⟨hk, hn⟩) hlo fun r P' sz' hp H1 locs1 hW1 hl1 => ?_
    have := kk r P' sz' hp lsr H1 locs1 hlen9 hls hW1 hl1 hk hn
    cases r <;> simpa using this
  · intro idx y na d' mc' ms' As st pc ls P sz k n Po stk hl hM hstk hlen hcat hdd hmx hk hn hd kk
    obtain ⟨l1, l2, l4, l5, l6, l7, l8⟩ := hl
    intro lsr H locs hlen9 hls hW hlo hkc hks
    have cw : CallB R s args L.1 idx y.1 y.2.1 y.2.2.1 y.2.2.2 (kx_W0 y) (kx_rm d' mc' ms') mc' ms' na ∧ (Cond.static y.1).before args s = true :=
      ⟨callB_of na hts (kx_ow hts l4) rfl rfl rfl (hts _ l5) (hts _ l1) ⟨l6, l7, l8⟩ ⟨by rw [hRf]; exact hdd, by rw [hRl]; show 8 + (y.2.2.1 + 11) + (64 * d' + 64) ≤ _; omega⟩, hts _ l2⟩
    refine kx_aftn (va_runS (As := As.map (kx_v G.2.1)) (rest := st.map (kx_v G.2.1)) ⟨hexec, hb, hlen9.symm, hown, hts⟩ hM cw ⟨kx_blind _ _ _ _, fun U hU hWm => ⟨rfl, by rw [hU]; exact hW, kx_K.moved hWm hK⟩⟩ rfl (by rw [List.length_map]; exact hlen) hls.1 (by rw [hstk]; simp) (lv_room (by rw [kx_cats]; exact hcat)) hd ⟨hk, hn⟩) hlo fun r P' sz' hp H1 locs1 hW1 hl1 => ?_
    have := kk r P' sz' hp lsr H1 locs1 hlen9 hls hW1 hl1 hk hn
    cases r <;> simpa using this
  · intro idx y na d' mc' ms' As b st pc ls P sz k n Po stk hl hM hno hstk hlen hcat hdd hmx hk hn hd kk
    intro lsr H locs hlen9 hls hW hlo hkc hks
    rcases hl with ⟨l1, l2, l4, l0, l3, l5, l6, l7, l8⟩ | ⟨host, l1, l2, l4, l0, l3, l5, l6, l7, l8⟩
    · have cw : CallB R s args L.1 idx y.1 y.2.1 y.2.2.1 none (kx_W0 y) (kx_rm d' mc' ms') mc' ms' na ∧ y.1.name = "<init>" ∧ (Cond.instanceMethod y.1).before args s = true :=
        ⟨callB_of na hts (kx_ow hts (by rw [l0]; exact l4)) (by rw [← l0]) rfl rfl (hts _ l5) (hts _ l1) ⟨l6, l7, l8⟩ ⟨by rw [hRf]; exact hdd, by rw [hRl]; show 8 + (y.2.2.1 + 11) + (64 * d' + 64) ≤ _; omega⟩, l3, hts _ l2⟩
      refine kx_aftn (va_runI (b := G.2.1 b) (As := As.map (kx_v G.2.1)) (rest := st.map (kx_v G.2.1)) ⟨hexec, hb, hlen9.symm, hown, hts⟩ hM cw ⟨kx_blind _ _ _ _, fun U hU hWm => ⟨rfl, by rw [hU]; exact hW, kx_K.moved hWm hK⟩⟩ rfl (by rw [List.length_map]; exact hlen) hls.1 (by rw [hstk]; simp [kx_v]) (lv_room (by rw [kx_cats]; exact hcat)) hd ⟨hk, hn⟩) hlo fun r P' sz' hp H1 locs1 hW1 hl1 => ?_
      obtain rfl := hno r P' sz' hp
      exact kk none P' sz' hp lsr H1 locs1 hlen9 hls hW1 hl1 hk hn
    · have cw : va_CN R s args L.1 idx y.1 host y.2.1 y.2.2.1 none (kx_W0 y) (kx_rm d' mc' ms') mc' ms' na ∧ y.1.name = "<init>" ∧ (Cond.instanceMethod y.1).before args s = true :=
        ⟨va_cnB na hts (kx_ow hts (by rw [l0]; exact l4)) (by rw [← l0]) rfl rfl (hK.2.2.1 _ l1) (hts _ l5) ⟨l6, l7, l8⟩ ⟨by rw [hRf]; exact hdd, by rw [hRl]; show 8 + (y.2.2.1 + 11) + (64 * d' + 64) ≤ _; omega⟩, l3, hts _ l2⟩
      refine kx_aftn (va_runIN (b := G.2.1 b) (As := As.map (kx_v G.2.1)) (rest := st.map (kx_v G.2.1)) ⟨hexec, hb, hlen9.symm, hown, hts⟩ hM cw ⟨kx_blind _ _ _ _, fun U hU hWm => ⟨rfl, by rw [hU]; exact hW, kx_K.moved hWm hK⟩⟩ rfl (by rw [List.length_map]; exact hlen) hls.1 (by rw [hstk]; simp [kx_v]) (lv_room (by rw [kx_cats]; exact hcat)) hd ⟨hk, hn⟩) hlo fun r P' sz' hp H1 locs1 hW1 hl1 => ?_
      obtain rfl := hno r P' sz' hp
      exact kk none P' sz' hp lsr H1 locs1 hlen9 hls hW1 hl1 hk hn
end KXN

theorem kx_mkn {l : Launch} {G : kx_G} {y : kx_S} {L : kx_L} {ini : Bool} {d mc ms : Nat} {As : List Value} {P : kx_P} {sz : Nat} {Po : Option Value → kx_P → Nat → Prop} (T0 : kx_Tab) (hL : kx_Lok L) (ls0 : List (Option Value))
    (hy : plainName y.1.cls = true ∧ y.1.cls = L.1 ∧ (ini = true → y.1.name = "<init>") ∧ 1 ≤ d) (hr9 : ∀ r P' sz', Po r P' sz' → kx_rok y.2.2.2 r) (hin : kx_in As y.2.2.1 = ls0) (hlen : ls0.length = y.2.2.1)
    (body : ∀ g : kx_F, kx_rB L ini y.2.1 mc ms Po g → kx_rC l G L.1 y.2.1 d mc ms g → kx_rN l G L.1 y.2.1 d mc ms g → g 0 ls0 [] P sz 0 0) : kx_Mn l G y d mc ms As P sz Po := by
  obtain ⟨hy1, hy2, hy3, hd⟩ := hy
  refine Met.ofW (cc := y.2.1) (maxL := y.2.2.1) (ret := y.2.2.2) hy1 rfl ?_
  intro p e s m args below meth c s₁ B hml hv
  obtain ⟨rfl, hW, hK⟩ := hv
  have hts := atoms_spec (ws := kx_W0 y) B.pre
  have hown : s.vm.findClass L.1 = some m.cls := by rw [← hy2]; exact findClass_of_methodNamed B.named
  have hB : kx_B p s m (As.map (kx_v G.2.1)).toArray meth c (kx_rm d mc ms) G L ini y.2.1 :=
    ⟨B.exec, B.bytes, hown, fun w hw => hts w (List.mem_cons_of_mem _ hw), hK, hL, fun h => by rw [← hy3 h]; exact (name_of_methodNamed B.named B.method).1, hd, by show 12 ≤ 64 * d + 64; omega⟩
  have hlocks := B.notSynchronized
  have hrt := B.returns
  have key := body (kx_g p l e (kx_rm d mc ms) s m (As.map (kx_v G.2.1)).toArray below meth c (MQ below (kx_Qn G Po) (As.map (kx_v G.2.1)).toArray s mc ms (fun q => G.2.2.2.1.size ≤ q)) G)
    (kx_blk T0 hB ?_) (kx_call hB rfl rfl) (kx_calln hB rfl rfl)
  · rw [lg_entry_eq]
    have hl := lv_entry (As.map (kx_v G.2.1)) (n := y.2.2.1) (kx_in_sl _ _ _ (by rw [hin]; exact hlen))
    refine key _ s.heap [] (hlen.trans hml.symm) ⟨hl.1.trans hlen.symm, hl.2.1, fun i v hi => ?_⟩ hW (fun q hq => by cases hq) (Nat.zero_le _) (Nat.zero_le _)
    rw [← hin] at hi
    have := kx_in_args G.2.1 As _ 0 i v hi
    rw [Nat.zero_add] at this
    exact hl.2.2 _ this
  · intro i vo pc lsr H locs P2 s2 k n hd9 hi hq hW2 hlo hk hn
    have hr := hr9 _ _ _ hq
    refine W.widen hk hn ?_
    show W p l e (kx_rm d mc ms) s m _ below meth c H locs mc ms _ _
    rcases hi with ⟨rfl, x, rfl⟩ | ⟨rfl, x, rfl⟩ | ⟨rfl, hx⟩ | ⟨rfl, rfl⟩
    · rcases kx_rok_i hr with h9 | ⟨h9, rfl | rfl⟩
      · rw [h9] at hrt
        exact W.iret B.exec B.bytes hrt (fun t ht hWm => ⟨_, P2, s2, hq, rfl, by rw [ht]; exact hW2⟩) hlo hd9 hlocks
      · rw [h9] at hrt
        exact W.zret B.exec B.bytes hrt rfl (fun t ht hWm => ⟨_, P2, s2, hq, rfl, by rw [ht]; exact hW2⟩) hlo hd9 hlocks
      · rw [h9] at hrt
        exact W.zret B.exec B.bytes hrt rfl (fun t ht hWm => ⟨_, P2, s2, hq, rfl, by rw [ht]; exact hW2⟩) hlo hd9 hlocks
    · rw [kx_rok_l hr] at hrt
      exact W.lret B.exec B.bytes hrt (fun t ht hWm => ⟨_, P2, s2, hq, rfl, by rw [ht]; exact hW2⟩) hlo hd9 hlocks
    · rcases hx with rfl | ⟨q, rfl⟩
      · obtain ⟨C, h9⟩ := kx_rok_a hr (Or.inl rfl)
        rw [h9] at hrt
        exact W.aret B.exec B.bytes hrt (Or.inl ⟨_, rfl⟩) (Or.inl rfl) (fun t ht hWm => ⟨_, P2, s2, hq, rfl, by rw [ht]; exact hW2⟩) hlo hd9 hlocks
      · obtain ⟨C, h9⟩ := kx_rok_a hr (Or.inr ⟨q, rfl⟩)
        rw [h9] at hrt
        exact W.aret B.exec B.bytes hrt (Or.inl ⟨_, rfl⟩) (Or.inr ⟨_, rfl⟩) (fun t ht hWm => ⟨_, P2, s2, hq, rfl, by rw [ht]; exact hW2⟩) hlo hd9 hlocks
    · rw [kx_rok_v hr] at hrt
      exact W.vret B.exec B.bytes hrt (fun t ht hWm => ⟨_, P2, s2, hq, rfl, by rw [ht]; exact hW2⟩) hlo hd9 hlocks

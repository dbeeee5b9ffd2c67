/-! METHODS THAT THROW: nothing written, one new cell at most; who isn't caught goes on to the caller -/
def kx_XC (G : kx_G) (E : String) (P : kx_P) (sz : Nat) : String → State → State → Prop := fun E2 _ t => E2 = E ∧ ∃ s2, sz ≤ s2 ∧ kx_W G P s2 t.heap
/-- y on As in the world P throws a new E -/
def kx_X (l : Launch) (G : kx_G) (y : kx_S) (d : Nat) (As : List Value) (P : kx_P) (sz : Nat) (E : String) : Prop :=
  vx_Met l y.1 (kx_W0 y) (kx_rm d 1 6) (kx_Pc G As P sz) (fun _ _ _ _ => False) (kx_XC G E P sz) 1 6 (fun q => G.2.2.2.1.size ≤ q)
theorem kx_W.grow {G : kx_G} {P : kx_P} {sz : Nat} {H H1 : Heap} (h : kx_W G P sz H) (hg : kx_ad G) (hz : H.size ≤ H1.size) (ho : ∀ q : Nat, q < H.size → H1[q]? = H[q]?) : ∃ s2, sz ≤ s2 ∧ kx_W G P s2 H1 := by
  obtain ⟨h1, h2, h3, h4⟩ := h
  have e := hg.1 sz h1
  have hle : G.2.2.2.1.size ≤ H.size := by rw [h2, e]; omega
  refine ⟨sz + (H1.size - H.size), by omega, by omega, ?_, fun q hq => ?_, fun n x hx => ?_⟩
  · rw [hg.1 _ (by omega)]
    omega
  · rw [ho q (by omega)]
    exact h3 q hq
  · obtain ⟨q1, q2⟩ := h4 n x hx
    refine ⟨by omega, q2.kept (ho _ ?_)⟩
    by_cases hn : 64 ≤ n
    · rw [hg.1 n hn, h2, e]
      omega
    · have := hg.2 n (by omega)
      omega
/-- a call of a method that throws -/
def kx_rX (l : Launch) (G : kx_G) (own : String) (cc : ByteArray) (d : Nat) (E : String) (P : kx_P) (sz : Nat) (g : kx_F) : Prop :=
  (∀ (idx : Nat) (y : kx_S) (na d' : Nat) (As : List Value) (b ci : Nat) (f : Nat → Value) (st : List Value) (pc : Nat) (ls : List (Option Value)) (stk : List Value),
    kx_lV own idx y na → kx_X l G y d' (.ref b :: As) P sz E → ci < 12 ∧ kx_R ci = y.1.cls → P b = kO ci f → stk = As.reverse ++ .ref b :: st → As.length = na → (st.map fun v => v.category).sum ≤ 8 → d' < d → y.2.2.1 ≤ 45 → decode cc pc = .ok (.invokevirtual idx, 3) → g pc ls stk P sz 0 0) ∧
  (∀ (idx : Nat) (y : kx_S) (na d' : Nat) (As : List Value) (st : List Value) (pc : Nat) (ls : List (Option Value)) (stk : List Value),
    kx_lS own idx y na → kx_X l G y d' As P sz E → stk = As.reverse ++ st → As.length = na → (st.map fun v => v.category).sum ≤ 8 → d' < d → y.2.2.1 ≤ 45 → decode cc pc = .ok (.invokestatic idx, 3) → g pc ls stk P sz 0 0)
abbrev kx_nms : List String := ["java/lang/RuntimeException", "java/lang/Exception"]
/-- the tables' words for 'throw new E()' -/
def kx_Et (own : String) (ik ic : Nat) (E : String) : Prop := Bundle.fit E = true ∧ (Cond.classLink own ik E ∈ kx_ws ∧ Cond.initialized E ∈ kx_ws) ∧ (∀ w ∈ (vx_at0 own ic E kx_nms).filter goodWord, w ∈ kx_ws) ∧ (∀ w ∈ (vx_at0 own ic E kx_nms).filter (fun w => !goodWord w), w = .castable E E ∨ ∃ q ∈ kx_ds, w = .declares q) ∧ E ∈ kx_cs ∧ ∀ w ∈ Cond.classLink own ik E :: Cond.initialized E :: vx_at0 own ic E kx_nms, vx_ot w = true
/-- throw new E() -/
def kx_rT (own : String) (cc : ByteArray) (d : Nat) (E : String) (P : kx_P) (sz : Nat) (g : kx_F) : Prop :=
  ∀ (ik ic pc : Nat) (ls : List (Option Value)) (st : List Value), kx_Et own ik ic E → decode cc pc = .ok (.new ik, 3) → decode cc (pc + 3) = .ok (.dup, 1) → decode cc (pc + 4) = .ok (.invokespecial ic, 3) → decode cc (pc + 7) = .ok (.athrow, 1) → (st.map fun v => v.category).sum ≤ 8 → 6 ≤ d → g pc ls st P sz 0 0
section KXX
variable {p : Program} {l : Launch} {e : Env} {R : Room} {s : State} {m : MethodId} {args : Array Value} {below : List Frame} {meth : Method} {c : Code} {cc : ByteArray}
theorem kx_thrown {G : kx_G} {E : String} {P : kx_P} {sz pc : Nat} {lsr : Array Slot} {st rest : List Value} {H : Heap} {locs : List Loc} (htab : ∀ x ∈ c.exceptionTable.toList, False) (hlocks : meth.locks = false) (hlo : ∀ q ∈ locs, G.2.2.2.1.size ≤ q.base)
    (run : vx_Run p l e R s m args below meth c H locs 0 0 1 6 (F0 m pc lsr st) rest (fun _ _ _ => False) (kx_XC G E P sz) (fun q => G.2.2.2.1.size ≤ q)) :
    W p l e R s m args below meth c H locs 0 0 (vx_MQ below (fun _ _ _ _ => False) (kx_XC G E P sz) args s 1 6 (fun q => G.2.2.2.1.size ≤ q)) (F0 m pc lsr st) := by
  intro T hT X
  rcases run T hT X with ⟨v, st0, t, T', L', h0, X', hL, e1, e2, hq, stp⟩ | ⟨q, st0, t, T', L', E', ce, h0, X', hL, e1, e2, ⟨rfl, s2, hs2, hW2⟩, hce, hcv, hcl, stp⟩
  · exact hq.elim
  · have ho := vx_out (p := p) (l := l) (e := e) (R := R) (args := args) (below := below) (Qc := fun _ _ _ _ => False) (XC := kx_XC G E' P sz) (free := fun q => G.2.2.2.1.size ≤ q) (m := m) (pc := pc) (ls := lsr) (rest := rest) (H := T'.heap) (locs := locs ++ L') (cells := 0 + 1) (slots := 0 + 6) (mc := 1) (ms := 6) (fun x hx => (htab x hx).elim) hlocks (by rw [e1]; exact hce) hcv hcl
      (fun t9 ht9 _ => ⟨rfl, s2, hs2, by rw [ht9, e1]; exact hW2⟩) (fun z hz => by
        rcases List.mem_append.mp hz with h | h
        · exact hlo z h
        · exact hL z h) (Nat.le_refl _) (Nat.le_refl _)
    obtain ⟨t2, a1, b1⟩ := ho T' rfl X'
    exact ⟨t2, stp.trans a1, b1⟩
theorem kx_callx {G : kx_G} {L : kx_L} {ini : Bool} {E : String} {P : kx_P} {sz : Nat} (B : kx_B p s m args meth c R G L ini cc) {d : Nat} (hRf : R.frames = d) (hRl : R.locals = 64 * d + 64) (hRc : R.cells = 1) (hRs : R.slots = 6) (htab : ∀ x ∈ c.exceptionTable.toList, False) (hlocks : meth.locks = false) :
    kx_rX l G L.1 cc d E P sz (kx_g p l e R s m args below meth c (vx_MQ below (fun _ _ _ _ => False) (kx_XC G E P sz) args s 1 6 (fun q => G.2.2.2.1.size ≤ q)) G) := by
  obtain ⟨hexec, hb, hown, hts, hK, hL, hini, hR1, hR2⟩ := B
  refine ⟨?_, ?_⟩
  · intro idx y na d' As b ci f st pc ls stk hl hM hci hPb hstk hlen hcat hdd hmx hd
    obtain ⟨l1, l2, l3, l4, l5, l6, l7, l8⟩ := hl
    intro lsr H locs hlen9 hls hW hlo hkc hks
    have cw : CallW R s args L.1 (kx_R ci) idx y.1 y.2.1 y.2.2.1 y.2.2.2 (kx_W0 y) (kx_rm d' 1 6) 1 6 na :=
      ⟨callB_of na hts (kx_ow hts l4) rfl rfl rfl (hts _ l5) (hts _ l1) ⟨l6, l7, l8⟩ ⟨by rw [hRf]; exact hdd, by rw [hRl]; show 8 + (y.2.2.1 + 11) + (64 * d' + 64) ≤ _; omega⟩, hts _ l2, by rw [hci.2]; exact hts _ l3⟩
    obtain ⟨r9, g0, cell, q1, q2, q3, -⟩ := hW.at hPb
    rw [kx_T_at hci.1] at g0
    cases g0
    have hrecv : ∃ cellB : Cell, H[G.2.1 b]? = some cellB ∧ cellB.vm.isStatics = false ∧ s.vm.findClass (kx_R ci) = some cellB.cls := ⟨cell, q1, by rw [q3]; rfl, by rw [q2]; exact (hK.1.1 ci _ (kx_T_at hci.1)).2.1⟩
    exact kx_thrown htab hlocks hlo (vx_runV (As := As.map (kx_v G.2.1)) (rest := st.map (kx_v G.2.1)) ⟨hexec, hb, hlen9.symm, hown, hts⟩ hM cw ⟨kx_blind _ _ _ _, hrecv, fun U hU hWm => ⟨rfl, by rw [hU]; exact hW, kx_K.moved hWm hK⟩⟩ rfl (by rw [List.length_map]; exact hlen) hls.1 (by rw [hstk]; simp [kx_v]) (lv_room (by rw [kx_cats]; exact hcat)) hd ⟨by omega, by omega⟩)
  · intro idx y na d' As st pc ls stk hl hM hstk hlen hcat hdd hmx hd
    obtain ⟨l1, l2, l4, l5, l6, l7, l8⟩ := hl
    intro lsr H locs hlen9 hls hW hlo hkc hks
    have cw : CallB R s args L.1 idx y.1 y.2.1 y.2.2.1 y.2.2.2 (kx_W0 y) (kx_rm d' 1 6) 1 6 na ∧ (Cond.static y.1).before args s = true :=
      ⟨callB_of na hts (kx_ow hts l4) rfl rfl rfl (hts _ l5) (hts _ l1) ⟨l6, l7, l8⟩ ⟨by rw [hRf]; exact hdd, by rw [hRl]; show 8 + (y.2.2.1 + 11) + (64 * d' + 64) ≤ _; omega⟩, hts _ l2⟩
    exact kx_thrown htab hlocks hlo (vx_runS (As := As.map (kx_v G.2.1)) (rest := st.map (kx_v G.2.1)) ⟨hexec, hb, hlen9.symm, hown, hts⟩ hM cw ⟨kx_blind _ _ _ _, fun U hU hWm => ⟨rfl, by rw [hU]; exact hW, kx_K.moved hWm hK⟩⟩ rfl (by rw [List.length_map]; exact hlen) hls.1 (by rw [hstk]; simp) (lv_room (by rw [kx_cats]; exact hcat)) hd ⟨by omega, by omega⟩)
theorem kx_throw {G : kx_G} {L : kx_L} {ini : Bool} {E : String} {P : kx_P} {sz : Nat} (B : kx_B p s m args meth c R G L ini cc) (hst : l.stackTraces = false) (hW0 : kx_W G P sz s.heap) {d : Nat} (hRf : R.frames = d) (hRl : R.locals = 64 * d + 64) (hRc : R.cells = 1) (hRs : R.slots = 6) (htab : ∀ x ∈ c.exceptionTable.toList, False) (hlocks : meth.locks = false) :
    kx_rT L.1 cc d E P sz (kx_g p l e R s m args below meth c (vx_MQ below (fun _ _ _ _ => False) (kx_XC G E P sz) args s 1 6 (fun q => G.2.2.2.1.size ≤ q)) G) := by
  obtain ⟨hexec, hb, hown, hts, hK, hL, hini, hR1, hR2⟩ := B
  intro ik ic pc ls st ⟨hfit, ⟨hk, hi⟩, hg1, hg2, hcs, hot⟩ d0 d3 d4 d7 hcat hd6
  intro lsr H locs hlen9 hls hW hlo hkc hks
  have hA : ∀ a : Nat, a < G.2.2.2.1.size → ¬ G.2.2.2.1.size ≤ a → s.heap[a]? = G.2.2.2.1[a]? := fun a ha _ => hW0.2.2.1 a ha
  have hK2 := hK.2.2.2.2.2.2.2.2
  have hsz0 : H.size = s.heap.size := hW.2.1.trans hW0.2.1.symm
  have hS : va_S (fun q => G.2.2.2.1.size ≤ q) s.heap H locs := by
    refine ⟨Nat.le_of_eq hsz0.symm, fun q hq hn => ?_, hlo⟩
    have hq2 : q < G.2.2.2.1.size := by omega
    rw [hW.2.2.1 q hq2, hW0.2.2.1 q hq2]
  have hat : ∀ w ∈ vx_at0 L.1 ic E kx_nms, w.before args s = true := by
    intro w hw
    by_cases g : goodWord w = true
    · exact hts w (hg1 w (List.mem_filter.mpr ⟨hw, g⟩))
    · have hng : (!goodWord w) = true := by
        cases hgw : goodWord w
        · rfl
        · exact absurd hgw g
      rcases hg2 w (List.mem_filter.mpr ⟨hw, hng⟩) with rfl | ⟨q, hq, rfl⟩
      · exact va_Nw.use rfl (hK.2.2.2.2.2.2.2.1.1 E hcs)
      · exact va_Nw.use rfl (hK.2.2.2.2.2.2.2.1.2.1 q hq)
  exact vx_throw0 (A := fun q => G.2.2.2.1.size ≤ q) (names := kx_nms) (own := L.1) (cls := E) (ik := ik) (ic := ic) (mc := 1) (ms := 6) hexec hb hst hown hfit (fun n hn => by
      rcases List.mem_cons.mp hn with rfl | hn
      · decide
      · rcases List.mem_cons.mp hn with rfl | hn
        · decide
        · cases hn) (hts _ hk) (hts _ hi) hat hot (hK2.2.2.2.1.kept hA) (hK2.2.2.2.2.kept hA) hS (hls.1.trans hlen9) d0 d3 d4 d7 (fun x hx => (htab x hx).elim) (by rw [hRf]; show 2 + 3 < d; omega)
    (by rw [kx_cats, hRl]; show _ + (13 * (2 + 1) + 42) ≤ _; omega) (by omega) (by omega) hlocks (fun t _ hz ho => ⟨rfl, hW.grow hK.2.1 hz ho⟩) hlo (Nat.le_refl _) (Nat.le_refl _)
end KXX
/-- a method that throws, by its body -/
theorem kx_mkx {l : Launch} {G : kx_G} {y : kx_S} {L : kx_L} {d : Nat} {As : List Value} {P : kx_P} {sz : Nat} {E : String} (hst : l.stackTraces = false) (T0 : kx_Tab) (hL : kx_Lok L) (ls0 : List (Option Value))
    (hy : plainName y.1.cls = true ∧ y.1.cls = L.1 ∧ 1 ≤ d) (hin : kx_in As y.2.2.1 = ls0) (hlen : ls0.length = y.2.2.1)
    (body : ∀ g : kx_F, kx_rB L false y.2.1 1 6 (fun _ _ _ => False) g → kx_rC l G L.1 y.2.1 d 1 6 g → kx_rX l G L.1 y.2.1 d E P sz g → kx_rT L.1 y.2.1 d E P sz g → g 0 ls0 [] P sz 0 0) : kx_X l G y d As P sz E := by
  obtain ⟨hy1, hy2, hd⟩ := hy
  refine vx_ofW (cc := y.2.1) (maxL := y.2.2.1) (ret := y.2.2.2) hy1 rfl ?_
  intro p e s m args below meth c s₁ B hml htab hv
  obtain ⟨rfl, hW, hK⟩ := hv
  have hts := atoms_spec (ws := kx_W0 y) B.pre
  have hown : s.vm.findClass L.1 = some m.cls := by rw [← hy2]; exact findClass_of_methodNamed B.named
  have hB : kx_B p s m (As.map (kx_v G.2.1)).toArray meth c (kx_rm d 1 6) G L false y.2.1 :=
    ⟨B.exec, B.bytes, hown, fun w hw => hts w (List.mem_cons_of_mem _ hw), hK, hL, (fun h => by cases h), hd, by show 12 ≤ 64 * d + 64; omega⟩
  have hlocks := B.notSynchronized
  have key := body (kx_g p l e (kx_rm d 1 6) s m (As.map (kx_v G.2.1)).toArray below meth c (vx_MQ below (fun _ _ _ _ => False) (kx_XC G E P sz) (As.map (kx_v G.2.1)).toArray s 1 6 (fun q => G.2.2.2.1.size ≤ q)) G)
    (kx_blk T0 hB (fun i vo pc lsr H locs P2 s2 k n hd9 hi hq => hq.elim)) (kx_call hB rfl rfl) (kx_callx hB rfl rfl rfl rfl htab hlocks) (kx_throw hB hst hW rfl rfl rfl rfl htab hlocks)
  rw [lg_entry_eq]
  have hl := lv_entry (As.map (kx_v G.2.1)) (n := y.2.2.1) (kx_in_sl _ _ _ (by rw [hin]; exact hlen))
  refine key _ s.heap [] (hlen.trans hml.symm) ⟨hl.1.trans hlen.symm, hl.2.1, fun i v hi => ?_⟩ hW (fun q hq => by cases hq) (Nat.zero_le _) (Nat.zero_le _)
  rw [← hin] at hi
  have := kx_in_args G.2.1 As _ 0 i v hi
  rw [Nat.zero_add] at this
  exact hl.2.2 _ this
theorem kx_Et_IAE : kx_Et RX10 353 355 "java/lang/IllegalArgumentException" := by
  have h1 := kx_in_tbl (ws := [Cond.classLink RX10 353 "java/lang/IllegalArgumentException", Cond.initialized "java/lang/IllegalArgumentException"]) [541, 125] (by decide +kernel) (by decide +kernel)
  refine ⟨by decide +kernel, ⟨h1 _ List.mem_cons_self, h1 _ (List.mem_cons_of_mem _ List.mem_cons_self)⟩, kx_in_tbl [122, 563, 572, 576, 579, 581, 564, 565, 144, 145, 566, 571, 577, 593, 553, 594, 555, 595, 557, 567, 569, 559, 583, 584, 585, 586, 586, 587, 588, 589, 589, 590, 591, 564, 582, 542, 550, 551, 552, 554, 556, 558, 562, 561, 560] (by decide +kernel) (by decide +kernel), ?_, by decide +kernel, by decide +kernel⟩
  have h2 : (vx_at0 RX10 355 "java/lang/IllegalArgumentException" kx_nms).filter (fun w => !goodWord w) = [.declares ⟨"java/lang/RuntimeException", "<init>", "()V"⟩, .declares ⟨"java/lang/Exception", "<init>", "()V"⟩, .declares ⟨"java/lang/Throwable", "<init>", "()V"⟩, .castable "java/lang/IllegalArgumentException" "java/lang/IllegalArgumentException"] := by decide +kernel
  intro w hw
  rw [h2] at hw
  simp only [List.mem_cons, List.not_mem_nil, or_false] at hw
  rcases hw with rfl | rfl | rfl | rfl
  · exact Or.inr ⟨_, by simp [kx_ds], rfl⟩
  · exact Or.inr ⟨_, by simp [kx_ds], rfl⟩
  · exact Or.inr ⟨_, by simp [kx_ds], rfl⟩
  · exact Or.inl rfl
theorem kx_Et_ISE : kx_Et RX10 357 359 "java/lang/IllegalStateException" := by
  have h1 := kx_in_tbl (ws := [Cond.classLink RX10 357 "java/lang/IllegalStateException", Cond.initialized "java/lang/IllegalStateException"]) [962, 134] (by decide +kernel) (by decide +kernel)
  refine ⟨by decide +kernel, ⟨h1 _ List.mem_cons_self, h1 _ (List.mem_cons_of_mem _ List.mem_cons_self)⟩, kx_in_tbl [122, 563, 572, 576, 579, 581, 564, 565, 144, 145, 566, 571, 577, 593, 553, 594, 555, 595, 557, 567, 569, 559, 972, 973, 974, 586, 586, 587, 588, 589, 589, 590, 591, 564, 971, 963, 965, 574, 966, 967, 968, 969, 562, 561, 970] (by decide +kernel) (by decide +kernel), ?_, by decide +kernel, by decide +kernel⟩
  have h2 : (vx_at0 RX10 359 "java/lang/IllegalStateException" kx_nms).filter (fun w => !goodWord w) = [.declares ⟨"java/lang/RuntimeException", "<init>", "()V"⟩, .declares ⟨"java/lang/Exception", "<init>", "()V"⟩, .declares ⟨"java/lang/Throwable", "<init>", "()V"⟩, .castable "java/lang/IllegalStateException" "java/lang/IllegalStateException"] := by decide +kernel
  intro w hw
  rw [h2] at hw
  simp only [List.mem_cons, List.not_mem_nil, or_false] at hw
  rcases hw with rfl | rfl | rfl | rfl
  · exact Or.inr ⟨_, by simp [kx_ds], rfl⟩
  · exact Or.inr ⟨_, by simp [kx_ds], rfl⟩
  · exact Or.inr ⟨_, by simp [kx_ds], rfl⟩
  · exact Or.inl rfl
theorem kx_Et_NSE : kx_Et RX10 360 362 "java/util/NoSuchElementException" := by
  have h1 := kx_in_tbl (ws := [Cond.classLink RX10 360 "java/util/NoSuchElementException", Cond.initialized "java/util/NoSuchElementException"]) [1110, 135] (by decide +kernel) (by decide +kernel)
  refine ⟨by decide +kernel, ⟨h1 _ List.mem_cons_self, h1 _ (List.mem_cons_of_mem _ List.mem_cons_self)⟩, kx_in_tbl [122, 563, 572, 576, 579, 581, 564, 565, 144, 145, 566, 571, 577, 593, 553, 594, 555, 595, 557, 567, 569, 559, 1120, 1121, 1122, 586, 586, 587, 588, 589, 589, 590, 591, 564, 1119, 1111, 1113, 575, 1114, 1115, 1116, 1117, 562, 561, 1118] (by decide +kernel) (by decide +kernel), ?_, by decide +kernel, by decide +kernel⟩
  have h2 : (vx_at0 RX10 362 "java/util/NoSuchElementException" kx_nms).filter (fun w => !goodWord w) = [.declares ⟨"java/lang/RuntimeException", "<init>", "()V"⟩, .declares ⟨"java/lang/Exception", "<init>", "()V"⟩, .declares ⟨"java/lang/Throwable", "<init>", "()V"⟩, .castable "java/util/NoSuchElementException" "java/util/NoSuchElementException"] := by decide +kernel
  intro w hw
  rw [h2] at hw
  simp only [List.mem_cons, List.not_mem_nil, or_false] at hw
  rcases hw with rfl | rfl | rfl | rfl
  · exact Or.inr ⟨_, by simp [kx_ds], rfl⟩
  · exact Or.inr ⟨_, by simp [kx_ds], rfl⟩
  · exact Or.inr ⟨_, by simp [kx_ds], rfl⟩
  · exact Or.inl rfl

/-! THE CLAIM OUT OF ONE WALK OF THE LAW'S BODY. Your part is whole_start (and what it stands on); all else here is the same for every law, but numbers. -/
def R_law : String := "ClockKeeperLaw"
def lw_P (b : Addr) (xs : List Int32) (args : Array Value) (s : State) : Prop := args = #[.ref b] ∧ s.IntsAt b xs ∧ xs.length ≤ 3072 ∧ (Jvm.Cond.and given_1 narrow_1).before args s = true
def lw_Q (_ : Array Value) (s : State) (o : Outcome) (t : State) : Prop := o = .returned (some (.int 1)) ∧ Framed s o t [] 601024 7293033
def lw_Z (below : List Frame) (a : Array Value) (s : State) : State → Prop := fun t => ∃ o, t.status = .running ∧ Ended t below o ∧ lw_Q a s o t
/-- the law's own end, with 1 on the stack, nothing written that was there before, its room as the claim has it -/
theorem lw_ret {p : Program} {l : Launch} {e : Env} {s : State} {m : MethodId} {below : List Frame} {meth : Method} {c : Code} {b : Nat} (hx : p.tables.exec = Jvm.exec) (hb : c.code = code) (hr : meth.sig.returnType = ret) (hlocks : meth.locks = false) {pc : Nat} {H : Heap} {ls : Array Slot} (hdg : decode code pc = .ok (.ireturn, 1)) : W p l e room_1 s m #[Value.ref b] below meth c H [] 601024 7293033 (lw_Z below #[Value.ref b] s) (F0 m pc ls [.int 1]) := by
  intro T hT X
  obtain ⟨fs, hret, hrun, hended, hW, hframe⟩ := X.leave (v := some (.int 1)) (hlocks := hlocks) (fun h => by rw [hr] at h; cases h)
  have hmeth' : T.vm.method? m = some meth := X.method'
  refine ⟨T.setFrames fs, ?_, .returned (some (.int 1)), hrun, hended, rfl, ⟨_, rfl⟩, hW, hframe⟩
  jvm_step X.here [X.here.top, hx, hb, hdg, hmeth', hr, ret, narrow_b1]
  (try refine ⟨rfl, ?_⟩); (try refine ⟨rfl, ?_⟩)
  first | (intro acts; rw [hret _ acts rfl rfl rfl]) | rw [hret _ _ rfl rfl rfl]
  exact Steps.refl _
/-- what holds at the law's entry: the machine, the code, the tables' words (any of lw_tbl by 'hts w (by decide +kernel)'), the script of L ints xs at the cell b, what the Statement gives of the start (any of its parts by flat_of_before) -/
def lw_At (p : Program) (s : State) (m : MethodId) (meth : Method) (c : Code) (b L : Nat) (xs : Nat → Int32) : Prop :=
  p.tables.exec = Jvm.exec ∧ c.code = code ∧ meth.sig.returnType = ret ∧ c.maxLocals = 8 ∧ s.vm.findClass R_law = some m.cls ∧ (∀ w ∈ lw_tbl, w.before #[Value.ref b] s = true) ∧ va_X b L xs s s.heap ∧ b < s.heap.size ∧ meth.locks = false ∧ (Jvm.Cond.and given_1 narrow_1).before #[Value.ref b] s = true
/-- what the Statement gives of the start, in the pure machine's words -/
theorem st_G {p : Program} {s : State} {m : MethodId} {meth : Method} {c : Code} {b L : Nat} {xs : Nat → Int32} (C0 : lw_At p s m meth c b L xs) : ∃ G : kx_G, kx_K G s ∧ G.2.2.2.1 = s.heap ∧ G.2.1 3 = b ∧ kx_W G (cP0 L xs) 64 s.heap := by
  obtain ⟨hx, hb, hr, hml, hown, hts, hX, hbl, hlocks, hgv⟩ := C0
  have hf : ∀ w ∈ lw_fl, w.before #[Value.ref b] s = true := flat_of_before _ hgv
  have hkw : ∀ w ∈ kx_ws, w.before #[Value.ref b] s = true := fun w hw => hts w (List.mem_filter.mp hw).1
  have hA : ∀ a : Nat, a < s.heap.size → ¬ (fun q => s.heap.size ≤ q) a := fun a ha => by show ¬ s.heap.size ≤ a; omega
  obtain ⟨c00, i00, -⟩ := u_known hkw (kx_uall 0 (by decide)) (hkw _ (kx_tab.2.2.2 0 (by decide)).1)
  have hc0 : ∀ cx : Nat, ∃ q : ClassId × (Nat → Nat), cx < 12 → u_Kn s (kx_R cx) (kx_T cx) (kx_N cx) q.1 q.2 := by
    intro cx
    by_cases h : cx < 12
    · obtain ⟨cC, iS, hk⟩ := u_known hkw (kx_uall cx h) (hkw _ (kx_tab.2.2.2 cx h).1)
      exact ⟨(cC, iS), fun _ => hk⟩
    · exact ⟨(c00, i00), fun z => absurd z h⟩
  obtain ⟨fc, hfc⟩ := Classical.axiomOfChoice hc0
  obtain ⟨a0, k0, m0, ha1, ha2, ha3⟩ := Cond.arrayClass_spec (hkw _ kx_tab.2.2.1.1)
  obtain ⟨a1, k1, m1, hb1, hb2, hb3⟩ := Cond.arrayClass_spec (hkw _ kx_tab.2.2.1.2.1)
  obtain ⟨a2, k2, m2, hd1, hd2, hd3⟩ := Cond.arrayClass_spec (hkw _ kx_tab.2.2.1.2.2)
  obtain ⟨m3, a3, k3, he1, -, he2, he3, he4⟩ := Cond.arrayOver_spec (hts _ (kx_at_i kxF_tb 11 rfl))
  have hs0 : ∀ i : Nat, ∃ q : Nat × Nat, i < 23 → st_P s (.string "ClockKeeper$TextReader" (kz_ix i)) (kz_by i) #[Value.ref b] q := by
    intro i
    by_cases h : i < 23
    · obtain ⟨q, hq⟩ := st_all hf i h
      exact ⟨q, fun _ => hq⟩
    · exact ⟨(0, 0), fun z => absurd z h⟩
  obtain ⟨sa, hsa⟩ := Classical.axiomOfChoice hs0
  obtain ⟨t1, cell1, ht1, hc1, r11, r12, r13, r14⟩ := st_md hf
  obtain ⟨t2, cell2, ht2, hc2, r21, r22, r23, r24⟩ := st_nf hf
  have l1 : t1 < s.heap.size := (Array.getElem?_eq_some_iff.mp hc1).1
  have l2 : t2 < s.heap.size := (Array.getElem?_eq_some_iff.mp hc2).1
  have ls : ∀ i, i < 23 → (sa i).1 < s.heap.size ∧ (sa i).2 < s.heap.size := fun i hi => by
    obtain ⟨-, ⟨c5, z1, -⟩, -, -, ⟨c6, z2, -⟩⟩ := hsa i hi
    exact ⟨(Array.getElem?_eq_some_iff.mp z1).1, (Array.getElem?_eq_some_iff.mp z2).1⟩
  obtain ⟨ad, h64, h3, h2, h1, h0, hsK, hsV, hlow⟩ : ∃ ad : Nat → Nat, (∀ n, 64 ≤ n → ad n = s.heap.size + (n - 64)) ∧ ad 3 = b ∧ ad 2 = t2 ∧ ad 1 = t1 ∧ ad 0 = t1 ∧ (∀ i, i < 23 → ad (8 + i) = (sa i).1) ∧ (∀ i, i < 23 → ad (31 + i) = (sa i).2) ∧ ∀ n, n < 64 → ad n < s.heap.size := by
    refine ⟨fun n => if 64 ≤ n then s.heap.size + (n - 64) else if n = 3 then b else if n = 2 then t2 else if n < 2 then t1 else if 8 ≤ n ∧ n < 31 then (sa (n - 8)).1 else if 31 ≤ n ∧ n < 54 then (sa (n - 31)).2 else b, fun n hn => if_pos hn, rfl, rfl, rfl, rfl, fun i hi => ?_, fun i hi => ?_, fun n hn => ?_⟩
    · dsimp only
      rw [if_neg (by omega), if_neg (by omega), if_neg (by omega), if_neg (by omega), if_pos ⟨by omega, by omega⟩, show 8 + i - 8 = i by omega]
    · dsimp only
      rw [if_neg (by omega), if_neg (by omega), if_neg (by omega), if_neg (by omega), if_neg (by omega), if_pos ⟨by omega, by omega⟩, show 31 + i - 31 = i by omega]
    · dsimp only
      rw [if_neg (by omega)]
      by_cases e3 : n = 3
      · rw [if_pos e3]; exact hbl
      · rw [if_neg e3]
        by_cases e2 : n = 2
        · rw [if_pos e2]; exact l2
        · rw [if_neg e2]
          by_cases e1 : n < 2
          · rw [if_pos e1]; exact l1
          · rw [if_neg e1]
            by_cases e8 : 8 ≤ n ∧ n < 31
            · rw [if_pos e8]; exact (ls _ (by omega)).1
            · rw [if_neg e8]
              by_cases e9 : 31 ≤ n ∧ n < 54
              · rw [if_pos e9]; exact (ls _ (by omega)).2
              · rw [if_neg e9]; exact hbl
  obtain ⟨cls, g0, g1, g2, g3⟩ : ∃ cls : Nat → ClassId, cls 0 = a0 ∧ cls 1 = a1 ∧ cls 2 = a2 ∧ cls 3 = a3 := ⟨fun t => if t = 0 then a0 else if t = 1 then a1 else if t = 2 then a2 else a3, rfl, rfl, rfl, rfl⟩
  obtain ⟨ar, w0, w1, w2, w3⟩ : ∃ ar : Nat → Nat × (Nat → Int32), ar 0 = (12, cj_md) ∧ ar 1 = (12, cj_md) ∧ ar 2 = (11, cj_nf) ∧ ar 3 = (L, xs) := ⟨fun t => if t = 3 then (L, xs) else if t = 2 then (11, cj_nf) else (12, cj_md), rfl, rfl, rfl, rfl⟩
  refine ⟨((fun c => (fc c).1, fun c => (fc c).2), ad, cls, s.heap, ar), ⟨⟨fun c q hq => ?_, fun k q hq => ?_⟩, ⟨h64, hlow⟩, fun w hw => ?_, va_AO.of (hts _ (kx_at_i kxF_tb 11 rfl)), fun n hn => ?_, ?_, ?_, ⟨fun q hq => ?_, fun q hq => ?_, fun q hq => ?_⟩, ⟨fun i hi => ?_, va_Zof (hts _ (kx_at_i kxF_tb 4 rfl)) (hts _ (kx_at_i kxF_tb 9 rfl)) (va_eqt (hf _ (kx_at_i kxF_mi 2 rfl))) hA, va_Zqof (hts _ (kx_at_i kxF_tb 5 rfl)) (hts _ (kx_at_i kxF_tb 10 rfl)) (hf _ (kx_at_i kxF_mi 3 rfl)) hA, vx_Zqof (hts _ (kx_at_i kxF_tb 2 rfl)) (hts _ (kx_at_i kxF_tb 8 rfl)) (hf _ (kx_at_i kxF_mi 0 rfl)) hA, vx_Zqof (hts _ (kx_at_i kxF_tb 3 rfl)) (hts _ (kx_at_i kxF_tb 8 rfl)) (hf _ (kx_at_i kxF_mi 1 rfl)) hA⟩⟩, rfl, h3, Nat.le_refl _, ?_, fun q hq => rfl, fun n x hx => ?_⟩
  · have hc : c < 12 := (List.getElem?_eq_some_iff.mp hq).1
    rw [kx_T_at hc] at hq
    cases hq
    exact hfc c hc
  · have hk : k < 4 := (List.getElem?_eq_some_iff.mp hq).1
    match k, hk with
    | 0, _ =>
      cases hq
      show ArrOfT s (cls 0) .int ∧ va_RA s (cls 0) .int
      rw [g0]
      exact ⟨fun n z => ⟨fun k h => (by cases h), k0, ha2, m0, ha3⟩, ha1⟩
    | 1, _ =>
      cases hq
      show ArrOfT s (cls 1) .long ∧ va_RA s (cls 1) .long
      rw [g1]
      exact ⟨fun n z => ⟨fun k h => (by cases h), k1, hb2, m1, hb3⟩, hb1⟩
    | 2, _ =>
      cases hq
      show ArrOfT s (cls 2) .boolean ∧ va_RA s (cls 2) .boolean
      rw [g2]
      exact ⟨fun n z => ⟨fun k h => (by cases h), k2, hd2, m2, hd3⟩, hd1⟩
    | 3, _ =>
      cases hq
      show ArrOfT s (cls 3) (.object "ClockKeeper$Clock") ∧ va_RA s (cls 3) (.object "ClockKeeper$Clock")
      rw [g3]
      exact ⟨fun n z => ⟨fun k h => (by cases h), k3, he2, m3, he3⟩, k3, m3, he2, he3, he1, he4⟩
  · have h9 := hts w (List.mem_append_right _ (List.mem_filter.mp hw).1)
    have hq := (List.mem_filter.mp hw).2
    cases w <;> first | exact va_Nw.of rfl h9 | cases hq
  · rcases (show n = 0 ∨ n = 1 ∨ n = 2 ∨ n = 3 by omega) with rfl | rfl | rfl | rfl
    · refine ⟨cell1, ?_, r11, r12, ?_, ?_⟩
      · show s.heap[ad 0]? = some cell1
        rw [h0]; exact hc1
      · show cell1.slots.size = (ar 0).1
        rw [w0]; exact r13
      · show ∀ j : Nat, j < (ar 0).1 → cell1.slots[j]? = some (.int ((ar 0).2 j))
        rw [w0]; exact r14
    · refine ⟨cell1, ?_, r11, r12, ?_, ?_⟩
      · show s.heap[ad 1]? = some cell1
        rw [h1]; exact hc1
      · show cell1.slots.size = (ar 1).1
        rw [w1]; exact r13
      · show ∀ j : Nat, j < (ar 1).1 → cell1.slots[j]? = some (.int ((ar 1).2 j))
        rw [w1]; exact r14
    · refine ⟨cell2, ?_, r21, r22, ?_, ?_⟩
      · show s.heap[ad 2]? = some cell2
        rw [h2]; exact hc2
      · show cell2.slots.size = (ar 2).1
        rw [w2]; exact r23
      · show ∀ j : Nat, j < (ar 2).1 → cell2.slots[j]? = some (.int ((ar 2).2 j))
        rw [w2]; exact r24
    · obtain ⟨scr, x1, x2, x3, x4, x5⟩ := hX
      refine ⟨scr, ?_, x2, x3, ?_, ?_⟩
      · show s.heap[ad 3]? = some scr
        rw [h3]; exact x1
      · show scr.slots.size = (ar 3).1
        rw [w3]; exact x4
      · show ∀ j : Nat, j < (ar 3).1 → scr.slots[j]? = some (.int ((ar 3).2 j))
        rw [w3]; exact x5
  · show va_Z "ClockKeeper$Almanac" "MONTH_DAYS" "[I" (.ref (ad 1)) (fun q => s.heap.size ≤ q) s s.heap
    rw [h1]
    exact va_Zof (hts _ (kx_at_i kxF_tb 0 rfl)) (hts _ (kx_at_i kxF_tb 6 rfl)) ht1 hA
  · show va_Z "ClockKeeper$Plan" "NOTES_FROM" "[I" (.ref (ad 2)) (fun q => s.heap.size ≤ q) s s.heap
    rw [h2]
    exact va_Zof (hts _ (kx_at_i kxF_tb 1 rfl)) (hts _ (kx_at_i kxF_tb 7 rfl)) ht2 hA
  · simp only [kx_cs, List.mem_cons, List.not_mem_nil, or_false] at hq
    rcases hq with rfl | rfl | rfl
    · exact va_Nw.of rfl (hts _ (kx_at_i kxF_tb 12 rfl))
    · exact va_Nw.of rfl (hts _ (kx_at_i kxF_tb 13 rfl))
    · exact va_Nw.of rfl (hts _ (kx_at_i kxF_tb 14 rfl))
  · simp only [kx_ds, List.mem_cons, List.not_mem_nil, or_false] at hq
    rcases hq with rfl | rfl | rfl
    · exact va_Nw.of rfl (hts _ (kx_at_i kxF_tb 15 rfl))
    · exact va_Nw.of rfl (hts _ (kx_at_i kxF_tb 16 rfl))
    · exact va_Nw.of rfl (hts _ (kx_at_i kxF_tb 17 rfl))
  · simp only [kx_nc, List.mem_cons, List.not_mem_nil, or_false] at hq
    rcases hq with rfl | rfl | rfl
    · exact va_Nc.of (hf _ (kx_at_i kxF_mi 4 rfl))
    · exact va_Nc.of (hf _ (kx_at_i kxF_mi 5 rfl))
    · exact va_Nc.of (hf _ (kx_at_i kxF_mi 6 rfl))
  · obtain ⟨q1, q2, q3, q4, q5⟩ := hsa i hi
    show vk_R "ClockKeeper$TextReader" (kz_ix i) (kz_tx i) (ad (8 + i)) s ∧ va_O "java/lang/String" (ad (8 + i)) (fun q => s.heap.size ≤ q) s s.heap ∧ va_OF "java/lang/String" "coder" "B" (.int 0) (ad (8 + i)) (fun q => s.heap.size ≤ q) s s.heap ∧ va_OF "java/lang/String" "value" "[B" (.ref (ad (31 + i))) (ad (8 + i)) (fun q => s.heap.size ≤ q) s s.heap ∧ va_T .byte (ad (31 + i)) (kz_by i).length (fun j => .int ((kz_by i).getD j 0)) (fun q => s.heap.size ≤ q) s s.heap
    rw [hsK i hi, hsV i hi]
    exact ⟨vk_R.of (st_ref hts i hi) q1, q2, q3, q4, q5⟩
  · show s.heap.size = ad 64
    rw [h64 64 (Nat.le_refl _)]
    omega
  · unfold cP0 at hx
    by_cases e1 : n = 1
    · rw [if_pos e1] at hx
      cases hx
      refine ⟨by omega, Or.inr ⟨rfl, 1, by decide, by rw [e1], w1⟩⟩
    · rw [if_neg e1] at hx
      by_cases e2 : n = 2
      · rw [if_pos e2] at hx
        cases hx
        refine ⟨by omega, Or.inr ⟨rfl, 2, by decide, by rw [e2], w2⟩⟩
      · rw [if_neg e2] at hx
        by_cases e3 : n = 3
        · rw [if_pos e3] at hx
          cases hx
          refine ⟨by omega, Or.inr ⟨rfl, 3, by decide, by rw [e3], w3⟩⟩
        · rw [if_neg e3] at hx
          cases hx
theorem whole_start {p : Program} {e : Env} {s : State} {m : MethodId} {below : List Frame} {meth : Method} {c : Code} (l : Launch) (hflags : l.flags = flags0) {b L : Nat} {xs : Nat → Int32} (hL : L ≤ 3072) (C0 : lw_At p s m meth c b L xs) : W p l e room_1 s m #[Value.ref b] below meth c s.heap [] 0 0 (lw_Z below #[Value.ref b] s) (entryFrame m ([Value.ref b] : List Value).toArray 8) := by
  obtain ⟨G, hK, hGh, hG3, hW0⟩ := st_G C0
  obtain ⟨hx, hb, hr, hml, hown, hts, hX, hbl, hlocks, hgv⟩ := id C0
  have hst : l.stackTraces = false := by
    show (!l.flags.contains noTraceFlag) = false
    rw [hflags]
    decide +kernel
  have hB : kx_B p s m #[Value.ref b] meth c room_1 G kxL_L false cL_law_ := ⟨hx, hb, hown, fun w hw => hts w (List.mem_filter.mp hw).1, hK, kxLok_L, (fun h => by cases h), by decide, by decide⟩
  have key := cl_law (xs := xs) l G hst hL (g := kx_g p l e room_1 s m #[Value.ref b] below meth c (lw_Z below #[Value.ref b] s) G) (kx_blk kx_tab hB ?_) (kx_calln2 hB (by decide) (by decide)) (kx_callw hB (by decide) (by decide))
  · have ee : ([Value.ref b] : List Value) = [Value.ref 3].map (kx_v G.2.1) := by
      show [Value.ref b] = [Value.ref (G.2.1 3)]
      rw [hG3]
    have ef : entryFrame m ([Value.ref b] : List Value).toArray 8 = entryFrame m ([Value.ref 3].map (kx_v G.2.1)).toArray 8 := by rw [← ee]
    rw [ef, lg_entry_eq]
    have hl := lv_entry ([Value.ref 3].map (kx_v G.2.1)) (n := 8) (Nat.le_of_ble_eq_true rfl)
    refine key _ s.heap [] hml.symm ⟨hl.1, hl.2.1, fun i v hi => ?_⟩ hW0 (fun q hq => by cases hq) (Nat.zero_le _) (Nat.zero_le _)
    have hi : kx_gl (kx_in [.ref 3] 8) i = some v := hi
    have := kx_in_args G.2.1 [.ref 3] _ 0 i v hi
    rw [Nat.zero_add] at this
    exact hl.2.2 _ this
  · intro i vo pc lsr H locs P2 s2 k n hd9 hi hq hW2 hlo hk hn
    have hq : vo = some (.int 1) := hq
    subst hq
    have hdi : decode code pc = .ok (.ireturn, 1) := by
      rcases hi with ⟨rfl, -⟩ | ⟨-, x2, h⟩ | ⟨-, h⟩ | ⟨-, h⟩
      · exact hd9
      · cases h
      · rcases h with h | ⟨q, h⟩ <;> cases h
      · cases h
    refine va_forget (fun q hq => by rw [← hGh]; exact hlo q hq) ?_
    refine W.widen (k := 601024) (n := 7293033) hk hn ?_
    exact lw_ret hx hb hr hlocks hdi
set_option maxHeartbeats 4000000 in
theorem lw_walk (l : Launch) (hflags : l.flags = flags0) (b : Addr) (xs : List Int32) : MetFree l x (headSpec (Jvm.Cond.code x code maxLocals ret :: tables_1) room_1) (lw_P b xs) (fun _ _ _ _ _ => True) lw_Q := by
  refine MetFree.of_bodyS (code := code) (maxLocals := maxLocals) (ret := ret) (by decide) ?_ ?_
  · intro args s m h hn
    obtain ⟨meth, c, h1, h2, h3, h4, h5, h6, -, -⟩ := Cond.code_spec hn (atoms_spec (ws := Jvm.Cond.code x code maxLocals ret :: tables_1) h _ List.mem_cons_self)
    exact ⟨meth, c, h1, h2, h3, h4, h5, h6⟩
  · intro p e s m args below meth c s₁ B hml0 hP _
    obtain ⟨rfl, hx, hbd, hgv⟩ := hP
    obtain ⟨scr, harrAt, hlist, hof, hsmall⟩ := hx
    obtain ⟨hcb, hkn, -, -⟩ := State.arrayAt?_spec harrAt
    have hown : s.vm.findClass R_law = some m.cls := findClass_of_methodNamed B.named
    have hts0 : ∀ c ∈ (Jvm.Cond.code x code maxLocals ret :: tables_1), c.before #[Value.ref b] s = true := atoms_spec (ws := Jvm.Cond.code x code maxLocals ret :: tables_1) B.pre
    have hts : ∀ w ∈ lw_tbl, w.before #[Value.ref b] s = true := k2_hts_sels lw_privs (fun w hw => hts0 w (List.mem_cons_of_mem _ hw)) lw_privs_ok
    have hml : c.maxLocals = 8 := B.maxLocals_eq (hts0 _ List.mem_cons_self)
    have X₀ : Stand p l e room_1 s m #[Value.ref b] below meth c s₁ [] 0 0 := Stand.of_body B
    have hh0 : s₁.heap = s.heap := by rw [B.state]; rfl
    have hsz : scr.slots.size = xs.length := by rw [← Array.length_toList, hlist, List.length_map]
    have hval : ∀ j : Nat, j < xs.length → scr.slots[j]? = some (.int (xs.getD j 0)) := fun j hj => by
      rw [← Array.getElem?_toList, hlist]
      simp [hj]
    have hbl : b < s.heap.size := (Array.getElem?_eq_some_iff.mp hcb).1
    have hX : va_X b xs.length (fun j => xs.getD j 0) s s.heap := ⟨scr, hcb, hof, hkn, hsz, hval⟩
    have K : W p l e room_1 s m #[Value.ref b] below meth c s₁.heap [] 0 0 (lw_Z below #[Value.ref b] s) (entryFrame m ([Value.ref b] : List Value).toArray 8) := by
      rw [hh0]
      exact whole_start l hflags hbd ⟨B.exec, B.bytes, B.returns, hml, hown, hts, hX, hbl, B.notSynchronized, hgv⟩
    obtain ⟨t, a1, o, b1, b2, b3⟩ := K s₁ rfl X₀
    exact ⟨t, o, a1, b1, b2, b3⟩
theorem lw_pre_spec {args : Array Value} {s : State} (h : (Jvm.Cond.and given_1 narrow_1).before args s = true) (hr : rest_1_c.before args s = true) : ∃ (b : Addr) (xs : List Int32), lw_P b xs args s := by
  have hs := flat_of_before _ h
  have hq := flat_of_before _ hr
  have hc : (Cond.count 1).before args s = true := hs _ (by decide +kernel)
  have harr : (Cond.arrayOf (.arg 0) .int).before args s = true := hs _ (by decide +kernel)
  have hle : (Cond.le (.length (.arg 0)) (.int 3072)).before args s = true := hs _ (by decide +kernel)
  have hlen : (Cond.isInt (.length (.arg 0))).before args s = true := hq _ (by decide +kernel)
  have hall : (Cond.all (.arg 0) (.isInt (.elem (.arg 0) (.index 0)))).before args s = true := hq _ (by decide +kernel)
  obtain ⟨b, xs, hb, hx⟩ := State.ints_of_pre rfl harr hlen hall
  have hsm : xs.length < 2 ^ 31 := hx.choose_spec.2.2.2
  have hev : (Term.length (.arg 0)).eval args s none [] s = some (.int xs.length.toInt32) := hx.length_eval hb
  have hv := Cond.le_ints hev (show (Term.int 3072).eval args s none [] s = some (.int 3072) from rfl)
  have hd : xs.length.toInt32 ≤ 3072 := by
    simpa [Cond.before, Cond.holds, hv] using hle
  have hN : xs.length ≤ 3072 := (Int32.ofNat_le_ofNat hsm (by decide)).mp (show Int32.ofNat xs.length ≤ Int32.ofNat 3072 from hd)
  exact ⟨b, xs, Cond.one_arg hc (show args[0]? = some (.ref b) from hb), hx, hN, h⟩
theorem lw_comes (l : Launch) (hflags : l.flags = flags0) : Comes l x (Jvm.Cond.code x code maxLocals ret :: tables_1) room_1 (fun tb e args s => Calls_1 tb e args s ∧ rest_1 tb e args s ∧ Pre_1 tb e args s)
    (fun _ _ args s o t => lw_Q args s o t) := by
  intro p e ha hc hk s m args below hf hfit hheap happ hpre
  obtain ⟨b, xs, hP⟩ := lw_pre_spec hpre.2.2 hpre.2.1
  obtain ⟨k, o, h1, h2, h3, hQ⟩ := lw_walk l hflags b xs p e ha hc hk s m args below hf ((Spec.applies_iff_loose hf).mp happ).1 hP trivial
  exact ⟨k, o, h1, h2, h3, hQ⟩
theorem lw_frame {s t : State} {o : Outcome} {args : Array Value} (h : Framed s o t [] 601024 7293033) :
    Framed s o t (fieldLocs frame_1_writes args s ++ arrayLocs frame_1_arrays args s ++ staticLocs frame_1_statics s) 601024 7293033 := h
theorem lw_limb (L : Cond) (hL : ∀ (args : Array Value) (s t : State), L.after args s (.returned (some (.int 1))) t = true) :
    ArmFor flags0 classFile x code maxLocals ret World_1 tables_1 room_1 Calls_1 rest_1 Pre_1
      (fun tb e a s o t => postC L tb e a s o t ∧ Framed s o t (fieldLocs frame_1_writes a s ++ arrayLocs frame_1_arrays a s ++ staticLocs frame_1_statics s) 601024 7293033) := by
  intro l hflags _ _ p e ha hc hk s m args below hf hfit hheap happ hpre
  obtain ⟨k, o, h1, h2, h3, rfl, hF⟩ := lw_comes l hflags p e ha hc hk s m args below hf hfit hheap happ hpre
  exact ⟨k, _, h1, h2, h3, hL args s _, lw_frame hF⟩
theorem i_vc : Claimed_1_1 ∧ Claimed_1_2 := ⟨lw_limb limb_1_1 (fun args s t => by simp [limb_1_1, Cond.after, Cond.holds, Cond.value]), lw_limb limb_1_2 (fun args s t => Cond.after_iff.mpr (by
  first | (rw [show limb_1_2 = Cond.eq .result (.int 1) from rfl, Cond.eq_ints (x := 1) (y := 1) rfl rfl]; simp; done) | (simp [limb_1_2, Cond.value, Term.eval]; done)))⟩

theorem kx_arr {G : kx_G} {U : State} (hK : va_K G.1 kx_cl (kx_tys G) U) {t : Nat} (h : t < 3) (n : Nat) (f : Nat → Value) : U.isArrayOf (arrV (G.2.2.1 t) n f) (kx_aty t) := by
  rcases (show t = 0 ∨ t = 1 ∨ t = 2 by omega) with rfl | rfl | rfl
  · exact (hK.2 0 _ rfl).1 n f
  · exact (hK.2 1 _ rfl).1 n f
  · exact (hK.2 2 _ rfl).1 n f
theorem kx_arrL {G : kx_G} {U : State} (hK : va_K G.1 kx_cl (kx_tys G) U) (n : Nat) (f : Nat → Value) : U.isArrayOf (arrV (G.2.2.1 1) n f) .long := (hK.2 1 _ rfl).1 n f
theorem kx_arrR {G : kx_G} {U : State} (hK : va_K G.1 kx_cl (kx_tys G) U) (n : Nat) (f : Nat → Value) : U.isArrayOf (arrV (G.2.2.1 3) n f) (.object "ClockKeeper$Clock") := (hK.2 3 _ rfl).1 n f
theorem kx_lo {G : kx_G} {locs : List Loc} {q i : Nat} (h : ∀ z ∈ locs, G.2.2.2.1.size ≤ z.base) (hg : kx_ad G) (hq : 64 ≤ q) : ∀ z ∈ locs ++ [(⟨G.2.1 q, i⟩ : Loc)], G.2.2.2.1.size ≤ z.base := by
  intro z hz
  rcases List.mem_append.mp hz with w | w
  · exact h z w
  · simp only [List.mem_singleton] at w
    subst w
    exact kx_ad_big hg hq
theorem kx_df_ok {c j : Nat} (hc : c < 12) (hj : j < kx_N c) (ad : Nat → Nat) : defaultValue (kx_ty c j) = kx_v ad (kx_df c j) := by
  have : ∀ c, c < 12 → ∀ j, j < kx_N c → defaultValue (kx_ty c j) = kx_df c j ∧ (kx_df c j).isRef = (kx_df c j == .null) := by
    decide +kernel
  obtain ⟨h1, h2⟩ := this c hc j hj
  rw [h1]
  cases h : kx_df c j <;> first | rfl | (rw [h] at h2; cases h2)
section KXS
variable {p : Program} {l : Launch} {e : Env} {R : Room} {s : State} {m : MethodId} {args : Array Value} {below : List Frame} {meth : Method} {c : Code} {Q : State → Prop} {cc : ByteArray}
/-- the machine at pc with locals ls and stack st in the world P comes to Q -/
def kx_g (p : Program) (l : Launch) (e : Env) (R : Room) (s : State) (m : MethodId) (args : Array Value) (below : List Frame) (meth : Method) (c : Code) (Q : State → Prop) (G : kx_G) : kx_F := fun pc ls st P sz k n =>
  ∀ (lsr : Array Slot) (H : Heap) (locs : List Loc), ls.length = c.maxLocals → kx_ls G.2.1 lsr ls → kx_W G P sz H → (∀ q ∈ locs, G.2.2.2.1.size ≤ q.base) → k ≤ R.cells → n ≤ R.slots → W p l e R s m args below meth c H locs k n Q (F0 m pc lsr (st.map (kx_v G.2.1)))
theorem kx_len_s1 (ls : List (Option Value)) (i : Nat) (v : Value) : (kx_s1 ls i v).length = ls.length := by simp [kx_s1, kx_len_sl, kx_len_pre]
theorem kx_len_s2 (ls : List (Option Value)) (i : Nat) (v : Value) : (kx_s2 ls i v).length = ls.length := by simp [kx_s2, kx_len_sl, kx_len_pre]
theorem kx_lay {cx : Nat} (hu : ∀ cx, cx < 12 → ∀ w ∈ u_ws (kx_R cx) (kx_T cx) (kx_N cx), w ∈ kx_ws) (h : cx < 12) : ∀ w ∈ u_ws (kx_R cx) (kx_T cx) (kx_N cx), w ∈ kx_ws := hu cx h
/-- what a method's body stands on -/
def kx_B (p : Program) (s : State) (m : MethodId) (args : Array Value) (meth : Method) (c : Code) (R : Room) (G : kx_G) (L : kx_L) (ini : Bool) (cc : ByteArray) : Prop :=
  p.tables.exec = Jvm.exec ∧ c.code = cc ∧ s.vm.findClass L.1 = some m.cls ∧ (∀ w ∈ kx_ws, w.before args s = true) ∧ kx_K G s ∧ kx_Lok L ∧ (ini = true → meth.name = "<init>") ∧ 1 ≤ R.frames ∧ 12 ≤ R.locals
theorem kx_step_ok {G : kx_G} {L : kx_L} {ini : Bool} {nx : kx_F} {rt : Option Value → kx_P → Nat → Prop} (hu : ∀ cx, cx < 12 → ∀ w ∈ u_ws (kx_R cx) (kx_T cx) (kx_N cx), w ∈ kx_ws) (hob : Cond.instanceMethod objectInit ∈ kx_ws ∧ Cond.code objectInit ⟨#[0xb1]⟩ 1 none ∈ kx_ws) (hac : Cond.arrayClass .int ∈ kx_ws ∧ Cond.arrayClass .long ∈ kx_ws ∧ Cond.arrayClass .boolean ∈ kx_ws) (hic : ∀ cx, cx < 12 → Cond.instantiable (kx_R cx) (kx_N cx) ∈ kx_ws ∧ Cond.initialized (kx_R cx) ∈ kx_ws) (B : kx_B p s m args meth c R G L ini cc)
    (hret : ∀ (i : Instr) (vo : Option Value) (pc : Nat) (lsr : Array Slot) (H : Heap) (locs : List Loc) (P : kx_P) (sz k n : Nat), decode cc pc = .ok (i, 1) → (i = .ireturn ∧ (∃ x, vo = some (.int x)) ∨ i = .lreturn ∧ (∃ x, vo = some (.long x)) ∨ i = .areturn ∧ (vo = some .null ∨ ∃ q, vo = some (.ref q)) ∨ i = .return_ ∧ vo = none) → rt vo P sz → kx_W G P sz H → (∀ q ∈ locs, G.2.2.2.1.size ≤ q.base) → k ≤ R.cells → n ≤ R.slots → W p l e R s m args below meth c H locs k n Q (F0 m pc lsr (vo.toList.map (kx_v G.2.1))))
    (o : kx_O) (pc : Nat) (ls : List (Option Value)) (st : List Value) (P : kx_P) (sz k n : Nat) (hd : decode cc pc = .ok (o.1, match o.1 with | .tableswitch _ _ _ _ => o.2.2.1 | i => kx_len i)) (hok : kx_okO L ini pc o = true)
    (hn : ∀ ls st P sz k n, nx (pc + kx_len o.1) ls st P sz k n → kx_g p l e R s m args below meth c Q G (pc + kx_len o.1) ls st P sz k n)
    (h : kx_step (kx_g p l e R s m args below meth c Q G) nx rt R.cells R.slots o pc ls st P sz k n) : kx_g p l e R s m args below meth c Q G pc ls st P sz k n := by
  obtain ⟨i, a, b, t, v⟩ := o
  obtain ⟨hexec, hb, hown, hts, hK, hL, hini, hRf, hRl⟩ := B
  have hKv := hK.1
  have hg := hK.2.1
  intro lsr H locs hlen hls hW hlo hkc hks
  cases i
  case iconst =>
    have e : v = _ := of_decide_eq_true hok
    subst e
    exact lv_iconst hexec hb hd rfl (hn _ _ _ _ _ _ h lsr H locs hlen hls hW hlo hkc hks)
  case lconst =>
    have e : v = _ := of_decide_eq_true hok
    subst e
    exact lv_lconst hexec hb hd rfl (hn _ _ _ _ _ _ h lsr H locs hlen hls hW hlo hkc hks)
  case bipush =>
    have e : v = _ := of_decide_eq_true hok
    subst e
    exact lv_bipush hexec hb hd rfl (hn _ _ _ _ _ _ h lsr H locs hlen hls hW hlo hkc hks)
  case sipush =>
    have e : v = _ := of_decide_eq_true hok
    subst e
    exact lv_sipush hexec hb hd rfl (hn _ _ _ _ _ _ h lsr H locs hlen hls hW hlo hkc hks)
  case aconst_null =>
    exact lv_null hexec hb hd (hn _ _ _ _ _ _ h lsr H locs hlen hls hW hlo hkc hks)
  case ldc =>
    rename_i j
    simp only [kx_okO, Bool.and_eq_true, decide_eq_true_eq] at hok
    obtain ⟨h1, h2⟩ := hok
    cases v with
    | int x => exact lv_ldc (v := x) hexec hb hown (hts _ (hL.2.1 (j, .int x) h1).2) hd (hn _ _ _ _ _ _ h lsr H locs hlen hls hW hlo hkc hks)
    | _ => exact Bool.noConfusion h2
  case ldc_w =>
    rename_i j
    simp only [kx_okO, Bool.and_eq_true, decide_eq_true_eq] at hok
    obtain ⟨h1, h2⟩ := hok
    cases v with
    | int x => exact lv_ldcw (v := x) hexec hb hown (hts _ (hL.2.1 (j, .int x) h1).2) hd (hn _ _ _ _ _ _ h lsr H locs hlen hls hW hlo hkc hks)
    | _ => exact Bool.noConfusion h2
  case ldc2_w =>
    rename_i j
    simp only [kx_okO, Bool.and_eq_true, decide_eq_true_eq] at hok
    obtain ⟨h1, h2⟩ := hok
    cases v with
    | long x => exact lv_ldc2 (v := x) hexec hb hown (hts _ (hL.2.1 (j, .long x) h1).2) hd (hn _ _ _ _ _ _ h lsr H locs hlen hls hW hlo hkc hks)
    | _ => exact Bool.noConfusion h2
  case getstatic =>
    rename_i j
    simp only [kx_okO, decide_eq_true_eq] at hok
    obtain ⟨z, e, hz, hl⟩ := hL.2.2.1 _ hok
    dsimp only at e
    subst e
    have hZ : va_Z (kx_stat z).1 (kx_stat z).2 "[I" (.ref (G.2.1 z)) (fun q => G.2.2.2.1.size ≤ q) s G.2.2.2.1 := by
      rcases hz with rfl | rfl
      · exact hK.2.2.2.2.2.1
      · exact hK.2.2.2.2.2.2.1
    obtain ⟨cf, kf, fi, f, a0, cell, g1, g2, g3, g4, g5, g6, g7, g8⟩ := hZ
    exact W.gets hexec hb hown (hts _ hl) g1 g2 g3 g4 (by rw [hW.2.2.1 a0 (Array.getElem?_eq_some_iff.mp g5).1]; exact g5) (fun e => by rw [e] at g6; cases g6) g7 rfl hd (hn _ _ _ _ _ _ h lsr H locs hlen hls hW hlo hkc hks)
  case iload_n =>
    have eq9 : _ = a := of_decide_eq_true hok
    obtain ⟨x, h1, h⟩ := kx_lI_d h
    exact lv_iload_n hexec hb hd eq9 (hls.2.2 _ _ h1) (hn _ _ _ _ _ _ h lsr H locs hlen hls hW hlo hkc hks)
  case iload =>
    have eq9 : _ = a := of_decide_eq_true hok
    obtain ⟨x, h1, h⟩ := kx_lI_d h
    exact lv_iload hexec hb hd (by rw [eq9]; exact hls.2.2 _ _ h1) (hn _ _ _ _ _ _ h lsr H locs hlen hls hW hlo hkc hks)
  case lload_n =>
    have eq9 : _ = a := of_decide_eq_true hok
    obtain ⟨x, h1, h⟩ := kx_lL_d h
    exact lv_lload_n hexec hb hd eq9 (hls.2.2 _ _ h1) (hn _ _ _ _ _ _ h lsr H locs hlen hls hW hlo hkc hks)
  case lload =>
    have eq9 : _ = a := of_decide_eq_true hok
    obtain ⟨x, h1, h⟩ := kx_lL_d h
    exact lv_lload hexec hb hd (by rw [eq9]; exact hls.2.2 _ _ h1) (hn _ _ _ _ _ _ h lsr H locs hlen hls hW hlo hkc hks)
  case aload_n =>
    have eq9 : _ = a := of_decide_eq_true hok
    have h : kx_lA ls a (fun x => nx (pc + 1) ls (x :: st) P sz k n) := h
    obtain ⟨x, h1, hx, h⟩ := kx_lA_d h
    rcases hx with rfl | ⟨q, rfl⟩
    · exact lv_aload_nN hexec hb hd eq9 (hls.2.2 _ _ h1) (hn _ _ _ _ _ _ h lsr H locs hlen hls hW hlo hkc hks)
    · exact lv_aload_n hexec hb hd eq9 (hls.2.2 _ _ h1) (hn _ _ _ _ _ _ h lsr H locs hlen hls hW hlo hkc hks)
  case aload =>
    have eq9 : _ = a := of_decide_eq_true hok
    have h : kx_lA ls a (fun x => nx (pc + 2) ls (x :: st) P sz k n) := h
    obtain ⟨x, h1, hx, h⟩ := kx_lA_d h
    rcases hx with rfl | ⟨q, rfl⟩
    · exact lv_aloadN hexec hb hd (by rw [eq9]; exact hls.2.2 _ _ h1) (hn _ _ _ _ _ _ h lsr H locs hlen hls hW hlo hkc hks)
    · exact lv_aload hexec hb hd (by rw [eq9]; exact hls.2.2 _ _ h1) (hn _ _ _ _ _ _ h lsr H locs hlen hls hW hlo hkc hks)
  case istore_n =>
    have eq9 : _ = a := of_decide_eq_true hok
    obtain ⟨x, r, rfl, h⟩ := kx_pI_d h
    obtain ⟨ha, h⟩ := kx_pl_d h
    exact lv_istore_n hexec hb hd eq9 (kx_ls_has hls) ha rfl (fun ls' hl' => hn _ _ _ _ _ _ h ls' H locs ((kx_len_s1 _ _ _).trans hlen) (kx_ls_s1 ha hl') hW hlo hkc hks)
  case istore =>
    rename_i z
    have eq9 : z = a := of_decide_eq_true hok
    obtain ⟨x, r, rfl, h⟩ := kx_pI_d h
    obtain ⟨ha, h⟩ := kx_pl_d h
    rw [eq9] at hd
    exact lv_istore hexec hb hd (kx_ls_has hls) ha rfl (fun ls' hl' => hn _ _ _ _ _ _ h ls' H locs ((kx_len_s1 _ _ _).trans hlen) (kx_ls_s1 ha hl') hW hlo hkc hks)
  case lstore_n =>
    have eq9 : _ = a := of_decide_eq_true hok
    obtain ⟨x, r, rfl, h⟩ := kx_pL_d h
    obtain ⟨ha, h⟩ := kx_pl_d h
    exact lv_lstore_n hexec hb hd eq9 (kx_ls_has hls) ha rfl (fun ls' hl' => hn _ _ _ _ _ _ h ls' H locs ((kx_len_s2 _ _ _).trans hlen) (kx_ls_s2 ha hl') hW hlo hkc hks)
  case lstore =>
    rename_i z
    have eq9 : z = a := of_decide_eq_true hok
    obtain ⟨x, r, rfl, h⟩ := kx_pL_d h
    obtain ⟨ha, h⟩ := kx_pl_d h
    rw [eq9] at hd
    exact lv_lstore hexec hb hd (kx_ls_has hls) ha rfl (fun ls' hl' => hn _ _ _ _ _ _ h ls' H locs ((kx_len_s2 _ _ _).trans hlen) (kx_ls_s2 ha hl') hW hlo hkc hks)
  case astore_n =>
    have eq9 : _ = a := of_decide_eq_true hok
    have h : kx_pA st (fun x r => kx_pl ls a (nx (pc + 1) (kx_s1 ls a x) r P sz k n)) := h
    obtain ⟨x, r, rfl, hx, h⟩ := kx_pA_d h
    obtain ⟨ha, h⟩ := kx_pl_d h
    rcases hx with rfl | ⟨q, rfl⟩
    · exact lv_astore_nN hexec hb hd eq9 (kx_ls_has hls) ha rfl (fun ls' hl' => hn _ _ _ _ _ _ h ls' H locs ((kx_len_s1 _ _ _).trans hlen) (kx_ls_s1 ha hl') hW hlo hkc hks)
    · exact lv_astore_n hexec hb hd eq9 (kx_ls_has hls) ha rfl (fun ls' hl' => hn _ _ _ _ _ _ h ls' H locs ((kx_len_s1 _ _ _).trans hlen) (kx_ls_s1 ha hl') hW hlo hkc hks)
  case astore =>
    rename_i z
    have eq9 : z = a := of_decide_eq_true hok
    have h : kx_pA st (fun x r => kx_pl ls a (nx (pc + 2) (kx_s1 ls a x) r P sz k n)) := h
    obtain ⟨x, r, rfl, hx, h⟩ := kx_pA_d h
    obtain ⟨ha, h⟩ := kx_pl_d h
    rw [eq9] at hd
    rcases hx with rfl | ⟨q, rfl⟩
    · exact lv_astoreN hexec hb hd (kx_ls_has hls) ha rfl (fun ls' hl' => hn _ _ _ _ _ _ h ls' H locs ((kx_len_s1 _ _ _).trans hlen) (kx_ls_s1 ha hl') hW hlo hkc hks)
    · exact lv_astore hexec hb hd (kx_ls_has hls) ha rfl (fun ls' hl' => hn _ _ _ _ _ _ h ls' H locs ((kx_len_s1 _ _ _).trans hlen) (kx_ls_s1 ha hl') hW hlo hkc hks)
  case iinc =>
    rename_i z w
    simp only [kx_okO, Bool.and_eq_true, decide_eq_true_eq] at hok
    obtain ⟨e1, e2⟩ := hok
    subst e1
    subst e2
    obtain ⟨x, h1, h⟩ := kx_lI_d h
    obtain ⟨ha, h⟩ := kx_pl_d h
    obtain ⟨kk, hkk⟩ := List.getElem?_of_mem (kx_lv_mem (ad := G.2.1) (q := (z, .int x)).mpr ⟨_, h1, rfl⟩)
    exact lv_iinc hexec hb hd (kx_ls_has hls) hkk rfl ha rfl (fun ls' hl' => hn _ _ _ _ _ _ h ls' H locs ((kx_len_s1 _ _ _).trans hlen) (kx_ls_s1 ha hl') hW hlo hkc hks)
  case iadd =>
    obtain ⟨y, r, rfl, h⟩ := kx_pI_d h
    obtain ⟨x, r, rfl, h⟩ := kx_pI_d h
    exact lv_iadd hexec hb hd (hn _ _ _ _ _ _ h lsr H locs hlen hls hW hlo hkc hks)
  case isub =>
    obtain ⟨y, r, rfl, h⟩ := kx_pI_d h
    obtain ⟨x, r, rfl, h⟩ := kx_pI_d h
    exact lv_isub hexec hb hd (hn _ _ _ _ _ _ h lsr H locs hlen hls hW hlo hkc hks)
  case imul =>
    obtain ⟨y, r, rfl, h⟩ := kx_pI_d h
    obtain ⟨x, r, rfl, h⟩ := kx_pI_d h
    exact lv_imul hexec hb hd (hn _ _ _ _ _ _ h lsr H locs hlen hls hW hlo hkc hks)
  case iand =>
    obtain ⟨y, r, rfl, h⟩ := kx_pI_d h
    obtain ⟨x, r, rfl, h⟩ := kx_pI_d h
    exact lv_iand hexec hb hd (hn _ _ _ _ _ _ h lsr H locs hlen hls hW hlo hkc hks)
  case ior =>
    obtain ⟨y, r, rfl, h⟩ := kx_pI_d h
    obtain ⟨x, r, rfl, h⟩ := kx_pI_d h
    exact lv_ior hexec hb hd (hn _ _ _ _ _ _ h lsr H locs hlen hls hW hlo hkc hks)
  case ixor =>
    obtain ⟨y, r, rfl, h⟩ := kx_pI_d h
    obtain ⟨x, r, rfl, h⟩ := kx_pI_d h
    exact lv_ixor hexec hb hd (hn _ _ _ _ _ _ h lsr H locs hlen hls hW hlo hkc hks)
  case ladd =>
    obtain ⟨y, r, rfl, h⟩ := kx_pL_d h
    obtain ⟨x, r, rfl, h⟩ := kx_pL_d h
    exact lv_ladd hexec hb hd (hn _ _ _ _ _ _ h lsr H locs hlen hls hW hlo hkc hks)
  case lsub =>
    obtain ⟨y, r, rfl, h⟩ := kx_pL_d h
    obtain ⟨x, r, rfl, h⟩ := kx_pL_d h
    exact lv_lsub hexec hb hd (hn _ _ _ _ _ _ h lsr H locs hlen hls hW hlo hkc hks)
  case lmul =>
    obtain ⟨y, r, rfl, h⟩ := kx_pL_d h
    obtain ⟨x, r, rfl, h⟩ := kx_pL_d h
    exact lv_lmul hexec hb hd (hn _ _ _ _ _ _ h lsr H locs hlen hls hW hlo hkc hks)
  case lor =>
    obtain ⟨y, r, rfl, h⟩ := kx_pL_d h
    obtain ⟨x, r, rfl, h⟩ := kx_pL_d h
    exact lv_lor hexec hb hd (hn _ _ _ _ _ _ h lsr H locs hlen hls hW hlo hkc hks)
  case idiv =>
    obtain ⟨y, r, rfl, h⟩ := kx_pI_d h
    obtain ⟨x, r, rfl, h0, h⟩ := kx_pI_d h
    exact lv_idiv hexec hb hd h0 (hn _ _ _ _ _ _ h lsr H locs hlen hls hW hlo hkc hks)
  case irem =>
    obtain ⟨y, r, rfl, h⟩ := kx_pI_d h
    obtain ⟨x, r, rfl, h0, h⟩ := kx_pI_d h
    exact lv_irem hexec hb hd h0 (hn _ _ _ _ _ _ h lsr H locs hlen hls hW hlo hkc hks)
  case ldiv =>
    obtain ⟨y, r, rfl, h⟩ := kx_pL_d h
    obtain ⟨x, r, rfl, h0, h⟩ := kx_pL_d h
    exact lv_ldiv hexec hb hd h0 (hn _ _ _ _ _ _ h lsr H locs hlen hls hW hlo hkc hks)
  case lrem =>
    obtain ⟨y, r, rfl, h⟩ := kx_pL_d h
    obtain ⟨x, r, rfl, h0, h⟩ := kx_pL_d h
    exact lv_lrem hexec hb hd h0 (hn _ _ _ _ _ _ h lsr H locs hlen hls hW hlo hkc hks)
  case ishl =>
    obtain ⟨y, r, rfl, h⟩ := kx_pI_d h
    obtain ⟨x, r, rfl, h⟩ := kx_pI_d h
    exact lv_ishl hexec hb hd (hn _ _ _ _ _ _ h lsr H locs hlen hls hW hlo hkc hks)
  case ishr =>
    obtain ⟨y, r, rfl, h⟩ := kx_pI_d h
    obtain ⟨x, r, rfl, h⟩ := kx_pI_d h
    exact lv_ishr hexec hb hd (hn _ _ _ _ _ _ h lsr H locs hlen hls hW hlo hkc hks)
  case iushr =>
    obtain ⟨y, r, rfl, h⟩ := kx_pI_d h
    obtain ⟨x, r, rfl, h⟩ := kx_pI_d h
    exact lv_iushr hexec hb hd rfl (hn _ _ _ _ _ _ h lsr H locs hlen hls hW hlo hkc hks)
  case lshl =>
    obtain ⟨y, r, rfl, h⟩ := kx_pI_d h
    obtain ⟨x, r, rfl, h⟩ := kx_pL_d h
    exact lv_lshl hexec hb hd rfl (hn _ _ _ _ _ _ h lsr H locs hlen hls hW hlo hkc hks)
  case ineg =>
    obtain ⟨x, r, rfl, h⟩ := kx_pI_d h
    exact lv_ineg hexec hb hd (hn _ _ _ _ _ _ h lsr H locs hlen hls hW hlo hkc hks)
  case lneg =>
    obtain ⟨x, r, rfl, h⟩ := kx_pL_d h
    exact lv_lneg hexec hb hd (hn _ _ _ _ _ _ h lsr H locs hlen hls hW hlo hkc hks)
  case lcmp =>
    obtain ⟨y, r, rfl, h⟩ := kx_pL_d h
    obtain ⟨x, r, rfl, h⟩ := kx_pL_d h
    exact W.lcmp hexec hb hd (hn _ _ _ _ _ _ h lsr H locs hlen hls hW hlo hkc hks)
  case i2l =>
    obtain ⟨x, r, rfl, h⟩ := kx_pI_d h
    exact lv_i2l hexec hb hd rfl (hn _ _ _ _ _ _ h lsr H locs hlen hls hW hlo hkc hks)
  case l2i =>
    obtain ⟨x, r, rfl, h⟩ := kx_pL_d h
    exact lv_l2i hexec hb hd rfl (hn _ _ _ _ _ _ h lsr H locs hlen hls hW hlo hkc hks)
  case dup =>
    obtain ⟨x, r, rfl, h⟩ := kx_pV_d h
    obtain ⟨hx, h⟩ := kx_c1_d h
    exact lv_dup hexec hb hd (by rw [kx_cat]; exact hx) (hn _ _ _ _ _ _ h lsr H locs hlen hls hW hlo hkc hks)
  case dup2 =>
    obtain ⟨x, r, rfl, h⟩ := kx_pV_d h
    obtain ⟨y, r, rfl, h⟩ := kx_pV_d h
    obtain ⟨hx, h⟩ := kx_c1_d h
    obtain ⟨hy, h⟩ := kx_c1_d h
    exact lv_dup2_11 hexec hb hd (by rw [kx_cat]; exact hx) (by rw [kx_cat]; exact hy) (hn _ _ _ _ _ _ h lsr H locs hlen hls hW hlo hkc hks)
  case pop =>
    obtain ⟨x, r, rfl, h⟩ := kx_pV_d h
    obtain ⟨hx, h⟩ := kx_c1_d h
    exact lv_pop hexec hb hd (by rw [kx_cat]; exact hx) (hn _ _ _ _ _ _ h lsr H locs hlen hls hW hlo hkc hks)
  case ifCond =>
    rename_i cd off
    have eq9 : (pc : Int) + off = (a : Int) := of_decide_eq_true hok
    obtain ⟨x, r, rfl, h1, h2⟩ := kx_pI_d h
    cases cd
    case eq => exact lv_if_eq hexec hb hd eq9 (fun q => h1 q lsr H locs hlen hls hW hlo hkc hks) (fun q => h2 q lsr H locs hlen hls hW hlo hkc hks)
    case ne => exact lv_if_ne hexec hb hd eq9 (fun q => h1 q lsr H locs hlen hls hW hlo hkc hks) (fun q => h2 (fun z => z q) lsr H locs hlen hls hW hlo hkc hks)
    case lt => exact lv_if_lt hexec hb hd eq9 (fun q => h1 q lsr H locs hlen hls hW hlo hkc hks) (fun q => h2 q lsr H locs hlen hls hW hlo hkc hks)
    case ge => exact lv_if_ge hexec hb hd eq9 (fun q => h1 q lsr H locs hlen hls hW hlo hkc hks) (fun q => h2 q lsr H locs hlen hls hW hlo hkc hks)
    case gt => exact lv_if_gt hexec hb hd eq9 (fun q => h1 q lsr H locs hlen hls hW hlo hkc hks) (fun q => h2 q lsr H locs hlen hls hW hlo hkc hks)
    case le => exact lv_if_le hexec hb hd eq9 (fun q => h1 q lsr H locs hlen hls hW hlo hkc hks) (fun q => h2 q lsr H locs hlen hls hW hlo hkc hks)
  case if_icmp =>
    rename_i cd off
    have eq9 : (pc : Int) + off = (a : Int) := of_decide_eq_true hok
    obtain ⟨y, r, rfl, h⟩ := kx_pI_d h
    obtain ⟨x, r, rfl, h1, h2⟩ := kx_pI_d h
    cases cd
    case eq => exact lv_icmp_eq hexec hb hd eq9 (fun q => h1 q lsr H locs hlen hls hW hlo hkc hks) (fun q => h2 q lsr H locs hlen hls hW hlo hkc hks)
    case ne => exact lv_icmp_ne hexec hb hd eq9 (fun q => h1 q lsr H locs hlen hls hW hlo hkc hks) (fun q => h2 (fun z => z q) lsr H locs hlen hls hW hlo hkc hks)
    case lt => exact lv_icmp_lt hexec hb hd eq9 (fun q => h1 q lsr H locs hlen hls hW hlo hkc hks) (fun q => h2 q lsr H locs hlen hls hW hlo hkc hks)
    case ge => exact lv_icmp_ge hexec hb hd eq9 (fun q => h1 q lsr H locs hlen hls hW hlo hkc hks) (fun q => h2 q lsr H locs hlen hls hW hlo hkc hks)
    case gt => exact lv_icmp_gt hexec hb hd eq9 (fun q => h1 q lsr H locs hlen hls hW hlo hkc hks) (fun q => h2 q lsr H locs hlen hls hW hlo hkc hks)
    case le => exact lv_icmp_le hexec hb hd eq9 (fun q => h1 q lsr H locs hlen hls hW hlo hkc hks) (fun q => h2 q lsr H locs hlen hls hW hlo hkc hks)
  case ifnull =>
    have eq9 : (pc : Int) + _ = (a : Int) := of_decide_eq_true hok
    have h : kx_pA st (fun x r => match x with | .null => kx_g p l e R s m args below meth c Q G a ls r P sz k n | _ => kx_g p l e R s m args below meth c Q G (pc + 3) ls r P sz k n) := h
    obtain ⟨x, r, rfl, hx, h⟩ := kx_pA_d h
    rcases hx with rfl | ⟨q, rfl⟩
    · exact lv_ifnullN hexec hb hd eq9 (h lsr H locs hlen hls hW hlo hkc hks)
    · exact lv_ifnull hexec hb hd (h lsr H locs hlen hls hW hlo hkc hks)
  case ifnonnull =>
    have eq9 : (pc : Int) + _ = (a : Int) := of_decide_eq_true hok
    have h : kx_pA st (fun x r => match x with | .null => kx_g p l e R s m args below meth c Q G (pc + 3) ls r P sz k n | _ => kx_g p l e R s m args below meth c Q G a ls r P sz k n) := h
    obtain ⟨x, r, rfl, hx, h⟩ := kx_pA_d h
    rcases hx with rfl | ⟨q, rfl⟩
    · exact lv_ifnonnullN hexec hb hd (h lsr H locs hlen hls hW hlo hkc hks)
    · exact lv_ifnonnull hexec hb hd eq9 (h lsr H locs hlen hls hW hlo hkc hks)
  case goto =>
    have eq9 : (pc : Int) + _ = (a : Int) := of_decide_eq_true hok
    exact lv_goto hexec hb hd eq9 (h lsr H locs hlen hls hW hlo hkc hks)
  case tableswitch =>
    rename_i df lo hi offs
    simp only [kx_okO, Bool.and_eq_true, decide_eq_true_eq, Array.all_eq_true] at hok
    obtain ⟨⟨⟨e, hlh⟩, hsz⟩, hof⟩ := hok
    obtain ⟨x, r, rfl, h1, h2⟩ := kx_pI_d h
    by_cases q : x.toInt < lo ∨ hi < x.toInt
    · exact lv_tableOut hexec hb hd q e (h1 q lsr H locs hlen hls hW hlo hkc hks)
    · have q1 : ¬ x.toInt < lo := fun z => q (Or.inl z)
      have q2 : ¬ hi < x.toInt := fun z => q (Or.inr z)
      have hj : (x.toInt - lo).toNat < offs.size := by omega
      have hge := hof _ hj
      refine lv_tableIn hexec hb hd q1 q2 (Array.getElem?_eq_getElem hj) (tgt := ((pc : Int) + offs[(x.toInt - lo).toNat]).toNat) (by omega) (h2 (x.toInt - lo).toNat _ (by omega) ?_ lsr H locs hlen hls hW hlo hkc hks)
      simp [hj]
  case getfield =>
    rename_i j
    have hj : (j, a, b) ∈ L.2.1 := of_decide_eq_true hok
    obtain ⟨q, r, rfl, h⟩ := kx_pR_d h
    obtain ⟨f, hP, h⟩ := kx_oF_d h
    obtain ⟨ha, hbN, hlk⟩ := hL.1 _ hj
    exact va_get (D := G.1) hexec hb hts (hu a ha) hown hKv (hW.obj ha hP) 0 rfl (kx_T_at ha) b hbN (hts _ hlk) (fun _ z => z) (v := kx_v G.2.1 (f b)) (by rw [List.getElem?_map, List.getElem?_range hbN]; rfl) hd (hn _ _ _ _ _ _ h lsr H locs hlen hls hW hlo hkc hks)
  case putfield =>
    rename_i j
    simp only [kx_okO, Bool.and_eq_true, Bool.or_eq_true, Bool.not_eq_true', decide_eq_true_eq] at hok
    obtain ⟨⟨⟨hj, htk⟩, ht4⟩, hfin⟩ := hok
    obtain ⟨x, r, rfl, h⟩ := kx_pV_d h
    obtain ⟨q, r, rfl, h⟩ := kx_pR_d h
    obtain ⟨f, hP, hq, h⟩ := kx_oF_d h
    obtain ⟨hf, h⟩ := kx_ft_d h
    obtain ⟨ha, hbN, hlk⟩ := hL.1 _ hj
    obtain ⟨hnr, hft⟩ := kx_fit_ok G.2.1 hf htk ht4
    have hqs := (hW.2.2.2 q _ hP).1
    have hap := va_apart (own := L.1) hts (hu a ha) (kx_ty a) (kx_tyok ha) (kx_nm ha) hKv (kx_T_at ha)
    obtain ⟨r9, g0, cell, q1, q2, q3, q4⟩ := hW.at hP
    rw [kx_T_at ha] at g0
    cases g0
    obtain ⟨hS, hfc, kC, hkC, hkind⟩ := hKv.1 a _ (kx_T_at ha)
    obtain ⟨cf, kf, fi, fl, hi, hsl⟩ := hS b hbN
    have hlay := hts _ (hu a ha _ (u_in_lay hbN))
    have hst := (u_facts hfc hkC (u_lays hts (hu a ha) hbN) hi).1
    have fin : ∀ (H1 : Heap), H1[G.2.1 q]? = some (cell.setSlot (G.1.2 a b) (kx_v G.2.1 x)) → H1.size = H.size → (∀ z, z ≠ G.2.1 q → H1[z]? = H[z]?) → W p l e R s m args below meth c H1 (locs ++ [⟨G.2.1 q, G.1.2 a b⟩]) k n Q (F0 m (pc + 3) lsr (r.map (kx_v G.2.1))) := by
      intro H1 e1 e2 e3
      refine hn _ _ _ _ _ _ h lsr H1 _ hlen hls (hW.put hg hq hqs e2 e3 ⟨_, kx_T_at ha, t_OB.to (V := updV (fun j => kx_v G.2.1 (f j)) b (kx_v G.2.1 x)) ⟨_, e1, q2, q3, t_set q4 hap hbN (kx_v G.2.1 x)⟩ (fun j _ => ?_)⟩) (fun z hz => ?_) hkc hks
      · unfold updV va_up
        split <;> rfl
      · rcases List.mem_append.mp hz with w | w
        · exact hlo z w
        · simp only [List.mem_singleton] at w
          subst w
          exact kx_ad_big hg hq
    unfold u_lay at hlay
    by_cases hff : (kx_T a b).2.2.2 = true
    · rw [if_pos hff] at hlay
      rcases hfin with hfin | ⟨hi2, hdc⟩
      · rw [hff] at hfin; cases hfin
      · have hcf : m.cls = cf := by
          obtain ⟨_, _, c', _, _, _, -, -, hf', -, -, -, hown2, -⟩ := Cond.laysFinal_spec hlay
          have e1 : c' = cf := by have := hi.symm.trans hf'; simp at this; exact this.1.symm
          rw [hdc] at hown2
          rw [← e1]; exact Option.some.inj (hown.symm.trans hown2)
        have h6 := u_fits hfc hkC hkind (Or.inr hlay) hi (kx_tyok ha b hbN) hnr hft
        refine W.putFinK hexec hb hown (hts _ hlk) hi hst hcf (hini hi2) (by rw [q2]; exact h6) q1 q3 (by rw [hsl]; exact k2_hasslot (q4 b hbN)) rfl rfl hd fun H' e1 e2 e3 => ?_
        rw [hsl] at e1 ⊢
        exact fin H' e1 e2 e3
    · rw [if_neg hff] at hlay
      have h6 := u_store hfc hkC hkind hlay hi (kx_tyok ha b hbN) hnr hft
      refine W.putK hexec hb (f := fl) ⟨hown, hts _ hlk, ⟨_, _, _, hi⟩, hst⟩ (by rw [q2]; exact h6) q1 q3 (by rw [hsl]; exact k2_hasslot (q4 b hbN)) rfl rfl hd fun H' e1 e2 e3 => ?_
      rw [hsl] at e1 ⊢
      exact fin H' e1 e2 e3
  case arraylength =>
    obtain ⟨q, r, rfl, h⟩ := kx_pR_d h
    obtain ⟨w, h, hx⟩ := kx_ln_d h
    rcases hx with ⟨t9, g9, hP⟩ | ⟨g9, hP⟩ | ⟨g9, hP⟩
    · rcases hW.at hP with ⟨h3, hc⟩ | ⟨rfl, z, hz, eqz, eqr⟩
      · exact W.alen (n := Int32.ofNat w) hexec hb hc (kx_arr hKv h3 _ _) (by rw [arrV_size]) rfl rfl hd (hn _ _ _ _ _ _ h lsr H locs hlen hls hW hlo hkc hks)
      · obtain ⟨cell, c1, c2, c3, c4, c5⟩ := hK.2.2.2.2.1 z hz
        rw [eqr] at c4
        have c1' : H[G.2.1 q]? = some cell := by rw [eqz, hW.2.2.1 _ (Array.getElem?_eq_some_iff.mp c1).1]; exact c1
        exact W.alen (n := Int32.ofNat w) hexec hb c1' c2 (by rw [c4]) rfl rfl hd (hn _ _ _ _ _ _ h lsr H locs hlen hls hW hlo hkc hks)
    · exact W.alen (n := Int32.ofNat w) hexec hb (hW.at hP) (kx_arrL hKv _ _) (by rw [arrV_size]) rfl rfl hd (hn _ _ _ _ _ _ h lsr H locs hlen hls hW hlo hkc hks)
    · exact W.alen (n := Int32.ofNat w) hexec hb (hW.at hP) (kx_arrR hKv _ _) (by rw [arrV_size]) rfl rfl hd (hn _ _ _ _ _ _ h lsr H locs hlen hls hW hlo hkc hks)
  case iaload =>
    obtain ⟨i, r, rfl, h⟩ := kx_pI_d h
    obtain ⟨q, r, rfl, h⟩ := kx_pR_d h
    obtain ⟨t9, w, g9, hP, h⟩ := kx_aI_d h
    have h8 : (t9 = 0 ∨ t9 = 5) ∧ vp_in i w ∧ nx (pc + 1) ls (.int (g9 i.toNatClampNeg) :: r) P sz k n := by
      split at h
      · exact ⟨Or.inl rfl, h⟩
      · exact ⟨Or.inr rfl, h⟩
      · exact h.elim
    obtain ⟨ht, hin, h8⟩ := h8
    have hlt : i.toNatClampNeg < w := Nat.not_le.mp fun z => hin (Or.inr z)
    rcases hW.at hP with ⟨h3, hc⟩ | ⟨h5, z, hz, eqz, eqr⟩
    · rcases ht with rfl | rfl
      · exact W.iald (v := .int (g9 i.toNatClampNeg)) hexec hb hc (kx_arr hKv h3 _ _) (fun z => by cases z) (by rw [arrV_size]; exact hin) (by rw [arrV_read _ _ hlt]) rfl rfl hd (hn _ _ _ _ _ _ h8 lsr H locs hlen hls hW hlo hkc hks)
      · omega
    · obtain ⟨cell, c1, c2, c3, c4, c5⟩ := hK.2.2.2.2.1 z hz
      rw [eqr] at c4 c5
      have c1' : H[G.2.1 q]? = some cell := by rw [eqz, hW.2.2.1 _ (Array.getElem?_eq_some_iff.mp c1).1]; exact c1
      exact W.iald (v := .int (g9 i.toNatClampNeg)) hexec hb c1' c2 c3 (by rw [c4]; exact hin) (c5 _ hlt) rfl rfl hd (hn _ _ _ _ _ _ h8 lsr H locs hlen hls hW hlo hkc hks)
  case baload =>
    obtain ⟨i, r, rfl, h⟩ := kx_pI_d h
    obtain ⟨q, r, rfl, h⟩ := kx_pR_d h
    obtain ⟨t9, w, g9, hP, h⟩ := kx_aI_d h
    obtain ⟨rfl, hin, h⟩ := kx_eqN_d h
    have hlt : i.toNatClampNeg < w := Nat.not_le.mp fun z => hin (Or.inr z)
    rcases hW.at hP with ⟨h3, hc⟩ | ⟨h5, z, hz, eqz, eqr⟩
    · exact W.zald (v := .int (g9 i.toNatClampNeg)) hexec hb hc (kx_arr hKv h3 _ _) (fun z => by cases z) (by rw [arrV_size]; exact hin) (by rw [arrV_read _ _ hlt]) rfl rfl hd (hn _ _ _ _ _ _ h lsr H locs hlen hls hW hlo hkc hks)
    · omega
  case laload =>
    obtain ⟨i, r, rfl, h⟩ := kx_pI_d h
    obtain ⟨q, r, rfl, h⟩ := kx_pR_d h
    obtain ⟨w, g9, hP, hin, h⟩ := kx_aL_d h
    have hlt : i.toNatClampNeg < w := Nat.not_le.mp fun z => hin (Or.inr z)
    exact W.lald (v := .long (g9 i.toNatClampNeg)) hexec hb (hW.at hP) (kx_arrL hKv _ _) (fun z => by cases z) (by rw [arrV_size]; exact hin) (by rw [arrV_read _ _ hlt]) rfl rfl hd (hn _ _ _ _ _ _ h lsr H locs hlen hls hW hlo hkc hks)
  case aaload =>
    obtain ⟨i, r, rfl, h⟩ := kx_pI_d h
    obtain ⟨q, r, rfl, h⟩ := kx_pR_d h
    obtain ⟨w, g9, hP, hin, h⟩ := kx_aR_d h
    have hlt : i.toNatClampNeg < w := Nat.not_le.mp fun z => hin (Or.inr z)
    exact W.aald (v := kx_v G.2.1 (va_rf (g9 i.toNatClampNeg))) hexec hb (hW.at hP) (kx_arrR hKv _ _) rfl (fun z => by cases z) (by rw [arrV_size]; exact hin) (by rw [arrV_read _ _ hlt]; cases g9 i.toNatClampNeg <;> rfl) rfl rfl hd (hn _ _ _ _ _ _ h lsr H locs hlen hls hW hlo hkc hks)
  case iastore =>
    obtain ⟨x, r, rfl, h⟩ := kx_pI_d h
    obtain ⟨i, r, rfl, h⟩ := kx_pI_d h
    obtain ⟨q, r, rfl, h⟩ := kx_pR_d h
    obtain ⟨t9, w, g9, hP, h⟩ := kx_aI_d h
    obtain ⟨rfl, hq, hin, h⟩ := kx_eqN_d h
    have hqs := (hW.2.2.2 q _ hP).1
    rcases hW.at hP with ⟨h3, hc⟩ | ⟨h5, z, hz, eqz, eqr⟩
    · refine W.iast hexec hb hc (kx_arr hKv h3 _ _) (fun z => by cases z) (by rw [arrV_size]; exact hin) rfl rfl hd fun H1 e1 e2 e3 => ?_
      refine hn _ _ _ _ _ _ h lsr H1 _ hlen hls (hW.put hg hq hqs e2 e3 (Or.inl ⟨h3, ?_⟩)) (kx_lo hlo hg hq) hkc hks
      rw [e1, arrV_store]
      congr 2
      funext z
      unfold updV upd
      split <;> rfl
    · omega
  case bastore =>
    obtain ⟨x, r, rfl, h⟩ := kx_pI_d h
    obtain ⟨i, r, rfl, h⟩ := kx_pI_d h
    obtain ⟨q, r, rfl, h⟩ := kx_pR_d h
    obtain ⟨t9, w, g9, hP, h⟩ := kx_aI_d h
    obtain ⟨rfl, hq, hin, h⟩ := kx_eqN_d h
    have hqs := (hW.2.2.2 q _ hP).1
    rcases hW.at hP with ⟨h3, hc⟩ | ⟨h5, z, hz, eqz, eqr⟩
    · refine W.zast hexec hb hc (kx_arr hKv h3 _ _) (fun z => by cases z) (by rw [arrV_size]; exact hin) rfl rfl hd fun H1 e1 e2 e3 => ?_
      refine hn _ _ _ _ _ _ h lsr H1 _ hlen hls (hW.put hg hq hqs e2 e3 (Or.inl ⟨h3, ?_⟩)) (kx_lo hlo hg hq) hkc hks
      rw [e1, arrV_store]
      congr 2
      funext z
      unfold updV upd
      split <;> rfl
    · omega
  case lastore =>
    obtain ⟨x, r, rfl, h⟩ := kx_pL_d h
    obtain ⟨i, r, rfl, h⟩ := kx_pI_d h
    obtain ⟨q, r, rfl, h⟩ := kx_pR_d h
    obtain ⟨w, g9, hP, hq, hin, h⟩ := kx_aL_d h
    have hqs := (hW.2.2.2 q _ hP).1
    refine W.last hexec hb (hW.at hP) (kx_arrL hKv _ _) (fun z => by cases z) (by rw [arrV_size]; exact hin) rfl rfl hd fun H1 e1 e2 e3 => ?_
    refine hn _ _ _ _ _ _ h lsr H1 _ hlen hls (hW.put hg hq hqs e2 e3 ?_) (kx_lo hlo hg hq) hkc hks
    show H1[_]? = _
    rw [e1, arrV_store]
    congr 2
    funext z
    unfold updV vp_updL
    split <;> rfl
  case aastore =>
    obtain ⟨x, r, rfl, h⟩ := kx_pR_d h
    obtain ⟨i, r, rfl, h⟩ := kx_pI_d h
    obtain ⟨q, r, rfl, h⟩ := kx_pR_d h
    obtain ⟨w, g9, hP, hq, hin, h⟩ := kx_aR_d h
    obtain ⟨f9, hPx, h⟩ := kx_oF_d h
    have hqs := (hW.2.2.2 q _ hP).1
    have hlt : i.toNatClampNeg < w := Nat.not_le.mp fun z => hin (Or.inr z)
    have h0 : ¬ i < 0 := fun z => hin (Or.inl z)
    obtain ⟨r9, g0, cellV, g1, g2, g3, -⟩ := hW.at hPx
    rw [kx_T_at (by decide : 1 < 12)] at g0
    cases g0
    have hcls := (hKv.1 1 _ (kx_T_at (by decide : 1 < 12))).2
    obtain ⟨kA, comp, k1, k2, k3, -⟩ := (hKv.2 3 _ rfl).2
    have hcomp : comp = G.1.1 1 := Option.some.inj (k3.symm.trans hcls.1)
    subst hcomp
    obtain ⟨kC, hkC, -⟩ := hcls.2
    refine W.aast hexec hb (hW.at hP) (fun q h => by cases h) (fun h => by cases h) k1 k2 rfl hkC ⟨h0, by rw [arrV_size]; exact hlt⟩ g1 (fun q h => by rw [g3] at h; cases h) (by rw [g2]; exact hkC) (by rw [g2]; exact va_assign hcls) rfl rfl hd fun H1 e1 e2 e3 => ?_
    refine hn _ _ _ _ _ _ h lsr H1 _ hlen hls (hW.put hg hq hqs e2 e3 ?_) (kx_lo hlo hg hq) hkc hks
    show H1[_]? = _
    rw [e1, arrV_store]
    congr 2
    funext z
    unfold updV va_up
    split <;> rfl
  case newarray =>
    rename_i y
    obtain ⟨x, r, rfl, h0, hx1, hx2, hx3, h8⟩ := kx_pI_d h
    simp only [kx_okO, Bool.or_eq_true, Bool.and_eq_true, decide_eq_true_eq] at hok
    have go : ∀ (tt : Nat) (ty : FieldType) (cx : kx_C), newarray.typeOf y = ty → Cond.arrayClass ty ∈ kx_ws → (kx_tys G)[tt]? = some (G.2.2.1 tt, ty) → ty.isReference = false → componentBytes ty ≤ 8 → (∀ H1 : Heap, H1[G.2.1 sz]? = some (arrV (G.2.2.1 tt) x.toNatClampNeg (fun _ => defaultValue ty)) → kx_at G (G.2.1 sz) cx H1) → nx (pc + 2) ls (.ref sz :: r) (kx_set P sz (some cx)) (sz + 1) (k + 1) (n + x.toNatClampNeg) → W p l e R s m args below meth c H locs k n Q (F0 m pc lsr (.int x :: r.map (kx_v G.2.1))) := by
      intro tt ty cx ety hcw htt hrf hcb hcx hh
      subst ety
      refine va_newaK hexec hb (hts _ hcw) rfl hd rfl h0 rfl ?_ hx2 hx3 hW.2.1 fun H1 cA e1 e2 e3 hAr hNm => ?_
      · have : x.toNatClampNeg * componentBytes (newarray.typeOf y) ≤ 1000000 * 8 := Nat.mul_le_mul hx1 hcb
        omega
      · have hcA : cA = G.2.2.1 tt := by
          have h7 := (hKv.2 tt _ htt).2
          have h8 : s.vm.findClass ("[" ++ (newarray.typeOf y).toString) = some (G.2.2.1 tt) := by
            cases y <;> exact h7
          exact Option.some.inj (hNm.symm.trans h8)
        subst hcA
        exact hn _ _ _ _ _ _ hh lsr H1 _ hlen hls (hW.new hg (by rw [e2, hW.2.1]) (fun z hz => e3 z (by rw [← hW.2.1]; exact hz)) (hcx H1 e1)) hlo hx2 hx3
    rcases hok with (⟨rfl, rfl⟩ | ⟨rfl, rfl⟩) | ⟨rfl, rfl⟩
    · exact go 0 .int (.inl (0, x.toNatClampNeg, fun _ => 0)) rfl hac.1 rfl rfl (by decide) (fun H1 e1 => Or.inl ⟨by decide, e1⟩) h8
    · exact go 1 .long (.inr (.inl (x.toNatClampNeg, fun _ => 0))) rfl hac.2.1 rfl rfl (by decide) (fun H1 e1 => e1) h8
    · exact go 2 .boolean (.inl (2, x.toNatClampNeg, fun _ => 0)) rfl hac.2.2 rfl rfl (by decide) (fun H1 e1 => Or.inl ⟨by decide, e1⟩) h8
  case anewarray =>
    rename_i j
    obtain ⟨x, r, rfl, h0, hx1, hx2, hx3, h⟩ := kx_pI_d h
    simp only [kx_okO, decide_eq_true_eq] at hok
    obtain ⟨-, hlk⟩ := hL.2.2.2.2 _ hok
    refine W.anew (C := "ClockKeeper$Clock") hexec hb hown (hts _ hlk) (va_AO.use hK.2.2.2.1) rfl hd rfl h0 (by omega) hx2 hx3 fun cA kA comp f1 f2 f3 f4 => ?_
    have hcA : cA = G.2.2.1 3 := by
      obtain ⟨kA', comp', w1, w2, w3, w4⟩ := (hKv.2 3 _ rfl).2
      exact Option.some.inj (f1.symm.trans w4)
    subst hcA
    rw [hW.2.1]
    refine hn _ _ _ _ _ _ h lsr _ _ hlen hls (hW.new hg (by rw [Array.size_push]) (fun z hz => by rw [Array.getElem?_push, if_neg (Nat.ne_of_lt hz)]) ?_) hlo hx2 hx3
    show (H.push _)[_]? = _
    rw [← hW.2.1, Array.getElem?_push_size, ← arrV_new]
    rfl
  case new =>
    rename_i j
    obtain ⟨hx2, hx3, h⟩ := h
    simp only [kx_okO, decide_eq_true_eq] at hok
    obtain ⟨ha, hlk⟩ := hL.2.2.2.2 _ hok
    have hKn := hKv.1 a _ (kx_T_at ha)
    refine W.newcK hexec hb hown (hts _ hlk) (hts _ (hic a ha).1) (hts _ (hic a ha).2) rfl hd hx2 hx3 hKn.2.1 hW.2.1 fun H1 kC hkC e1 e2 e3 => ?_
    have hob9 := u_born (kx_ty a) hts (hu a ha) hKn hkC e1 (kx_tyok ha)
    refine hn _ _ _ _ _ _ h lsr H1 _ hlen hls (hW.new hg (by rw [e2, hW.2.1]) (fun z hz => e3 z (by rw [← hW.2.1]; exact hz)) ⟨_, kx_T_at ha, hob9.to (fun j hj => ?_)⟩) hlo hx2 hx3
    exact kx_df_ok ha hj G.2.1
  case invokespecial =>
    rename_i j
    obtain ⟨q, r, rfl, h⟩ := kx_pR_d h
    obtain ⟨eqr, h⟩ := kx_nil_d h
    subst eqr
    have hj : j ∈ L.2.2.2.2.1 := of_decide_eq_true hok
    refine W.objInit hexec hb hown (hts _ (hL.2.2.2.1 _ hj)) (hts _ hob.1) (hts _ hob.2) rfl (hls.1.trans hlen) rfl hd hRf ?_ (hn _ _ _ _ _ _ h lsr H locs hlen hls hW hlo hkc hks)
    show 2 * 0 + 0 + 12 ≤ R.locals
    omega
  case ireturn =>
    obtain ⟨x, r, eq1, h2⟩ := kx_pI_d h
    obtain ⟨eq2, h2⟩ := kx_nil_d h2
    subst eq2
    subst eq1
    exact hret _ _ pc lsr H locs P sz k n hd (Or.inl ⟨rfl, x, rfl⟩) h2 hW hlo hkc hks
  case lreturn =>
    obtain ⟨x, r, eq1, h2⟩ := kx_pL_d h
    obtain ⟨eq2, h2⟩ := kx_nil_d h2
    subst eq2
    subst eq1
    exact hret _ _ pc lsr H locs P sz k n hd (Or.inr (Or.inl ⟨rfl, x, rfl⟩)) h2 hW hlo hkc hks
  case areturn =>
    have h : kx_pA st (fun x r => kx_nil r (rt (some x) P sz)) := h
    obtain ⟨x, r, eq1, hx, h2⟩ := kx_pA_d h
    obtain ⟨eq2, h2⟩ := kx_nil_d h2
    subst eq2
    subst eq1
    exact hret _ (some x) pc lsr H locs P sz k n hd (Or.inr (Or.inr (Or.inl ⟨rfl, hx.imp (fun z => by rw [z]) (fun ⟨q, z⟩ => ⟨q, by rw [z]⟩)⟩))) h2 hW hlo hkc hks
  case return_ =>
    obtain ⟨eq2, h⟩ := kx_nil_d h
    subst eq2
    exact hret _ none pc lsr H locs P sz k n hd (Or.inr (Or.inr (Or.inr ⟨rfl, rfl⟩))) h hW hlo hkc hks
  all_goals exact False.elim h
end KXS

/-! System.arraycopy of ints between two rows -/
theorem kz_cw : ∀ w ∈ [Cond.methodLink "ClockKeeper$Round" 34 arraycopyName, Cond.static arraycopyName, Cond.native arraycopyName, Cond.initialized "java/lang/System"], w ∈ kx_ws := kx_in_tbl [1363, 1364, 1365, 137] (by decide +kernel) (by decide +kernel)
theorem kz_copy {l : Launch} {G : kx_G} {L : kx_L} {ini : Bool} {cc : ByteArray} {d : Nat} {g : kx_F} (h : kz_pk l G L ini cc d g) (pc : Nat) {idx : Nat} (hlk : Cond.methodLink L.1 idx arraycopyName ∈ kx_ws) (hd : decode cc pc = .ok (.invokestatic idx, 3)) {ls : List (Option Value)} {r : List Value} {P : kx_P} {sz k n a b na nb : Nat} {f h2 : Nat → Int32} {sp dp nn : Int32}
    (ha : P a = kI 0 na f) (hb : P b = kI 0 nb h2) (hb64 : 64 ≤ b) (h1 : ¬ sp < 0) (hdp : ¬ dp < 0) (h3 : ¬ nn < 0) (h4 : sp.toNatClampNeg + nn.toNatClampNeg ≤ na) (h5 : dp.toNatClampNeg + nn.toNatClampNeg ≤ nb) (hcat : (r.map fun v => v.category).sum ≤ 8)
    (kk : g (pc + 3) ls r (kx_set P b (kI 0 nb (va_cpy f h2 sp.toNatClampNeg dp.toNatClampNeg nn.toNatClampNeg))) sz k n) : g pc ls (.int nn :: .int dp :: .ref b :: .int sp :: .ref a :: r) P sz k n := by
  obtain ⟨p, e, R, s, m, args, below, meth, c, Q, rfl, B, hRf, hRl⟩ := h
  obtain ⟨hexec, hbc, hown, hts, hK, hL, hini, hR1, hR2⟩ := B
  intro lsr H locs hlen hls hW hlo hkc hks
  have hKv := hK.1
  have hg := hK.2.1
  have hc0 : H[G.2.1 a]? = some (arrV (G.2.2.1 0) na (fun j => .int (f j))) := by
    rcases hW.at ha with ⟨-, h⟩ | ⟨h, -⟩
    · exact h
    · cases h
  have hc1 : H[G.2.1 b]? = some (arrV (G.2.2.1 0) nb (fun j => .int (h2 j))) := by
    rcases hW.at hb with ⟨-, h⟩ | ⟨h, -⟩
    · exact h
    · cases h
  have hbs := (hW.2.2.2 b _ hb).1
  have nn0 : ∀ z : Int32, ¬ z < 0 → z.toInt = (z.toNatClampNeg : Int) := by
    intro z hz
    obtain ⟨j, hj, rfl⟩ := nI_of hz
    rw [nI_toInt hj, nI_clamp hj]
  obtain ⟨-, k0, hk0, cm0, hkk0⟩ := (hKv.2 0 _ rfl).1 na (fun j => .int (f j))
  obtain ⟨-, k1, hk1, cm1, hkk1⟩ := (hKv.2 0 _ rfl).1 nb (fun j => .int (h2 j))
  intro T hT X
  obtain ⟨vm', X', step⟩ := X.arraycopy hexec hown (hts _ hlk) (hts _ (kx_at_l kz_cw 2 rfl)) (hts _ (kx_at_l kz_cw 1 rfl)) (hts _ (kx_at_l kz_cw 3 rfl)) (src := G.2.1 a) (dst := G.2.1 b) (cs := arrV (G.2.2.1 0) na (fun j => .int (f j))) (cd := arrV (G.2.2.1 0) nb (fun j => .int (h2 j))) (srcPos := sp) (destPos := dp) (n := nn) (by rw [hT]; exact hc0) (by rw [hT]; exact hc1)
    (fun _ h => by cases h) (fun _ h => by cases h) (fun h => by cases h) (fun h => by cases h) hk0 hk1 hkk0 hkk1 (by rfl) h1 hdp h3
    (by rw [nn0 sp h1, nn0 nn h3, arrV_size]; omega)
    (by rw [nn0 dp hdp, nn0 nn h3, arrV_size]; omega)
    (fun vm₁ _ i hi => by
      have e : (arrV (G.2.2.1 0) na (fun j => .int (f j))).slots.getD (sp.toNatClampNeg + i) .null = .int (f (sp.toNatClampNeg + i)) := by
        rw [Array.getD_eq_getD_getElem?, arrV_read _ _ (by omega)]
        rfl
      refine ⟨?_, ?_⟩
      · rw [e]; rfl
      · rw [e]; exact trivial)
    (g := F0 m pc lsr (.int nn :: .int dp :: .ref (G.2.1 b) :: .int sp :: .ref (G.2.1 a) :: r.map (kx_v G.2.1))) rfl (by rw [← hlen]; exact hls.1) (rest := r.map (kx_v G.2.1)) rfl (by rw [hbc]; exact hd) hR1 (by
      have := kx_cats G.2.1 r
      have q : nativeFrameWords "java/lang/System" "arraycopy" 5 ≤ 40 := by decide
      rw [hRl]
      show 2 * 0 + _ + _ ≤ _
      omega)
  have e1 : copied (arrV (G.2.2.1 0) na (fun j => .int (f j))) (arrV (G.2.2.1 0) nb (fun j => .int (h2 j))) sp dp nn = arrV (G.2.2.1 0) nb (fun j => .int (va_cpy f h2 sp.toNatClampNeg dp.toNatClampNeg nn.toNatClampNeg j)) := va_copied (fun z => .int z) _ _ f h2 h4
  rw [e1] at X' step
  have hl : G.2.1 b < H.size := (Array.getElem?_eq_some_iff.mp hc1).1
  obtain ⟨t, a1, b1⟩ := kk lsr (H.setIfInBounds (G.2.1 b) (arrV (G.2.2.1 0) nb (fun j => .int (va_cpy f h2 sp.toNatClampNeg dp.toNatClampNeg nn.toNatClampNeg j)))) _ hlen hls
    (hW.put hg hb64 hbs (by simp) (fun q hq => by simp [Array.getElem?_setIfInBounds, Ne.symm hq]) (Or.inl ⟨by decide, by simp [Array.getElem?_setIfInBounds, hl]⟩))
    (fun q hq => by
      rcases List.mem_append.mp hq with h | h
      · exact hlo q h
      · obtain ⟨z, -, hz⟩ := List.mem_map.mp h
        rw [← hz]
        exact kx_ad_big hg hb64) hkc hks _ (by rw [← hT]; rfl) X'
  exact ⟨t, step t a1, b1⟩

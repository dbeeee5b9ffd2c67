theorem kx_eq0 {k : Prop} : kx_eqN 0 0 k = k := rfl
section RSW
variable {PB : kx_P} {K : Nat → Int32} {w : Nat} {V te qu Fo st F : Nat → Int32} {x : Option kx_C}
/-- the world behind a text that was read -/
def cx_rw (PB : kx_P) (w : Nat) (V te qu Fo st F : Nat → Int32) (x : Option kx_C) : kx_P := kx_set (cx_8 (cx_fW (cx_vW PB w V te qu) w Fo st) (.ref w) F) 64 x
theorem cx_rw_64 : cx_rw PB w V te qu Fo st F x 64 = x := ks_eq _ _ _
theorem cx_rw_68 : cx_rw PB w V te qu Fo st F x 68 = kO 8 (kf (cr8 (.ref 67) (.ref w)) F) := (ks_ne (by decide)).trans cx_8o
theorem cx_rw_o {n : Nat} (h1 : ¬ n = 64) (h2 : ¬ n = 68) (h3 : n < w ∨ w + 5 ≤ n) : cx_rw PB w V te qu Fo st F x n = PB n := by
  unfold cx_rw cx_8 cx_fW cx_vW
  rw [ks_ne h1, ks_ne h2, ks_ne (by omega), ks_ne (by omega), ks_ne (by omega), ks_ne (by omega), ks_ne (by omega)]
theorem cx_rw_w (hw : 144 ≤ w) : cx_rw PB w V te qu Fo st F x w = kO 9 (kf (cr9 w) V) := by
  unfold cx_rw cx_8 cx_fW cx_vW
  rw [ks_ne (by omega), ks_ne (by omega), ks_ne (by omega), ks_ne (by omega), ks_eq]
theorem cx_rw_1 (hw : 144 ≤ w) : cx_rw PB w V te qu Fo st F x (w + 1) = kI 0 24 te := by
  unfold cx_rw cx_8 cx_fW cx_vW
  rw [ks_ne (by omega), ks_ne (by omega), ks_ne (by omega), ks_ne (by omega), ks_ne (by omega), ks_ne (by omega), ks_eq]
theorem cx_rw_2 (hw : 144 ≤ w) : cx_rw PB w V te qu Fo st F x (w + 2) = kI 0 4 qu := by
  unfold cx_rw cx_8 cx_fW cx_vW
  rw [ks_ne (by omega), ks_ne (by omega), ks_ne (by omega), ks_ne (by omega), ks_ne (by omega), ks_eq]
theorem cx_rw_3 (hw : 144 ≤ w) : cx_rw PB w V te qu Fo st F x (w + 3) = kO 2 (kf (cr2 w) Fo) := by
  unfold cx_rw cx_8 cx_fW cx_vW
  rw [ks_ne (by omega), ks_ne (by omega), ks_eq]
theorem cx_rw_4 (hw : 144 ≤ w) : cx_rw PB w V te qu Fo st F x (w + 4) = kI 0 400 st := by
  unfold cx_rw cx_8 cx_fW cx_vW
  rw [ks_ne (by omega), ks_ne (by omega), ks_ne (by omega), ks_eq]
end RSW
/-- behind readSpare -/
def cx_RS (PB : kx_P) (K : Nat → Int32) (w : Nat) (T : Nat → Int32) (n : Nat) (R : ck_Qt) (sz : Nat) : Option Value → kx_P → Nat → Prop := fun r P2 s2 => ∃ F V te qu Fo st, r = some (.int (if R.1.2.1 = -1 then 0 else R.1.2.2.1)) ∧ s2 = sz ∧ P2 = cx_rw (kx_set PB 64 (kO 10 (kf (cr10 (.ref w)) (upd K 2 0)))) w V te qu Fo st F (kO 10 (kf (cr10 (.ref w)) (upd (upd K 2 0) 5 R.1.2.1))) ∧ (R.1.2.1 = -1 → cx_D T n R F V te qu Fo st) ∧ (¬ R.1.2.1 = -1 → ¬ R.1.2.2.1 = 0)
/-- new works at w -/
def cx_nw (P : kx_P) (w : Nat) : kx_P := kx_set (kx_set (kx_set (kx_set (kx_set (kx_set P (w + 1) (kI 0 24 (fun _ => 0))) (w + 2) (kI 0 4 (fun _ => 0))) (w + 4) (kI 0 400 (fun _ => 0))) (w + 5) (kI 0 64 (fun _ => 0))) (w + 3) (kO 2 (kf (cr2 w) (fun _ => 0)))) w (kO 9 (kf (cr9 w) (fun _ => 0)))
theorem cx_nw_o {P : kx_P} {w n : Nat} (h : n < w ∨ w + 6 ≤ n) : cx_nw P w n = P n := by
  unfold cx_nw
  rw [ks_ne (by omega), ks_ne (by omega), ks_ne (by omega), ks_ne (by omega), ks_ne (by omega), ks_ne (by omega)]
theorem cx_nw_a {P : kx_P} {w : Nat} : cx_nw P w w = kO 9 (kf (cr9 w) (fun _ => 0)) ∧ cx_nw P w (w + 1) = kI 0 24 (fun _ => 0) ∧ cx_nw P w (w + 2) = kI 0 4 (fun _ => 0) ∧ cx_nw P w (w + 3) = kO 2 (kf (cr2 w) (fun _ => 0)) ∧ cx_nw P w (w + 4) = kI 0 400 (fun _ => 0) ∧ cx_nw P w (w + 5) = kI 0 64 (fun _ => 0) := by
  unfold cx_nw
  refine ⟨ks_eq _ _ _, ?_, ?_, ?_, ?_, ?_⟩
  · rw [ks_ne (by omega), ks_ne (by omega), ks_ne (by omega), ks_ne (by omega), ks_ne (by omega), ks_eq]
  · rw [ks_ne (by omega), ks_ne (by omega), ks_ne (by omega), ks_ne (by omega), ks_eq]
  · rw [ks_ne (by omega), ks_eq]
  · rw [ks_ne (by omega), ks_ne (by omega), ks_ne (by omega), ks_eq]
  · rw [ks_ne (by omega), ks_ne (by omega), ks_eq]
/-- a text read by the class's reader, as a hypothesis of what the cells are -/
def cx_wk (P : kx_P) (w : Nat) : Prop := ∃ V te qu Fo st : Nat → Int32, P w = kO 9 (kf (cr9 w) V) ∧ P (w + 1) = kI 0 24 te ∧ P (w + 2) = kI 0 4 qu ∧ P (w + 3) = kO 2 (kf (cr2 w) Fo) ∧ P (w + 4) = kI 0 400 st

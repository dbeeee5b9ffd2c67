/-! the records of the class: fields that hold references or longs; the others are ints (kf) -/
def cr0 : Nat → Option Value := fun j => match j with
  | 2 => some (.ref 66)
  | _ => none
def cr1 (w : Value) (d : Int64) (h : Value) : Nat → Option Value := fun j => match j with
  | 2 => some (w)
  | 3 => some (.long d)
  | 11 => some (h)
  | _ => none
def cr2 (w : Nat) : Nat → Option Value := fun j => match j with
  | 0 => some (.ref (w + 4))
  | 2 => some (.ref (w + 5))
  | _ => none
def cr3 : Nat → Option Value := fun j => match j with
  | 0 => some (.ref 90)
  | 1 => some (.ref 91)
  | 2 => some (.ref 92)
  | _ => none
def cr4 (n : Value) : Nat → Option Value := fun j => match j with
  | 0 => some (.ref 82)
  | 1 => some (.ref 83)
  | 6 => some (n)
  | _ => none
def cr5 : Nat → Option Value := fun j => match j with
  | 0 => some (.ref 85)
  | 1 => some (.ref 86)
  | 2 => some (.ref 87)
  | 3 => some (.ref 88)
  | _ => none
def cr6 (c : Value) : Nat → Option Value := fun j => match j with
  | 0 => some (.ref 79)
  | 1 => some (.ref 80)
  | 2 => some (c)
  | _ => none
def cr7 : Nat → Option Value := fun j => match j with
  | 0 => some (.ref 72)
  | 1 => some (.ref 73)
  | 2 => some (.ref 74)
  | 3 => some (.ref 75)
  | 5 => some (.ref 76)
  | 6 => some (.ref 77)
  | _ => none
def cr8 (t w : Value) : Nat → Option Value := fun j => match j with
  | 0 => some (t)
  | 9 => some (w)
  | _ => none
def cr9 (w : Nat) : Nat → Option Value := fun j => match j with
  | 13 => some (.ref (w + 1))
  | 15 => some (.ref (w + 2))
  | 16 => some (.ref (w + 3))
  | _ => none
def cr10 (s : Value) : Nat → Option Value := fun j => match j with
  | 0 => some (.ref 65)
  | 1 => some (.ref 67)
  | 3 => some (.ref 68)
  | 4 => some (s)
  | 6 => some (.ref 69)
  | 8 => some (.ref 70)
  | 9 => some (.ref 71)
  | 12 => some (.ref 78)
  | 13 => some (.ref 81)
  | 14 => some (.ref 84)
  | 15 => some (.ref 89)
  | _ => none
theorem cf0_0  {F : Nat → Int32} : kf cr0 F 0 = .int (F 0) := rfl
theorem cp0_0  {F : Nat → Int32} (x : Int32) : va_up (kf cr0 F) 0 (.int x) = kf cr0 (upd F 0 x) := kf_up 0 x rfl
theorem cf0_1  {F : Nat → Int32} : kf cr0 F 1 = .int (F 1) := rfl
theorem cp0_1  {F : Nat → Int32} (x : Int32) : va_up (kf cr0 F) 1 (.int x) = kf cr0 (upd F 1 x) := kf_up 1 x rfl
theorem cf0_2  {F : Nat → Int32} : kf cr0 F 2 = .ref 66 := rfl
theorem cf0_3  {F : Nat → Int32} : kf cr0 F 3 = .int (F 3) := rfl
theorem cp0_3  {F : Nat → Int32} (x : Int32) : va_up (kf cr0 F) 3 (.int x) = kf cr0 (upd F 3 x) := kf_up 3 x rfl
theorem cf1_0 {w : Value} {d : Int64} {h : Value} {F : Nat → Int32} : kf (cr1 w d h) F 0 = .int (F 0) := rfl
theorem cp1_0 {w : Value} {d : Int64} {h : Value} {F : Nat → Int32} (x : Int32) : va_up (kf (cr1 w d h) F) 0 (.int x) = kf (cr1 w d h) (upd F 0 x) := kf_up 0 x rfl
theorem cf1_1 {w : Value} {d : Int64} {h : Value} {F : Nat → Int32} : kf (cr1 w d h) F 1 = .int (F 1) := rfl
theorem cp1_1 {w : Value} {d : Int64} {h : Value} {F : Nat → Int32} (x : Int32) : va_up (kf (cr1 w d h) F) 1 (.int x) = kf (cr1 w d h) (upd F 1 x) := kf_up 1 x rfl
theorem cf1_2 {w : Value} {d : Int64} {h : Value} {F : Nat → Int32} : kf (cr1 w d h) F 2 = w := rfl
theorem cf1_3 {w : Value} {d : Int64} {h : Value} {F : Nat → Int32} : kf (cr1 w d h) F 3 = .long d := rfl
theorem cf1_4 {w : Value} {d : Int64} {h : Value} {F : Nat → Int32} : kf (cr1 w d h) F 4 = .int (F 4) := rfl
theorem cp1_4 {w : Value} {d : Int64} {h : Value} {F : Nat → Int32} (x : Int32) : va_up (kf (cr1 w d h) F) 4 (.int x) = kf (cr1 w d h) (upd F 4 x) := kf_up 4 x rfl
theorem cf1_5 {w : Value} {d : Int64} {h : Value} {F : Nat → Int32} : kf (cr1 w d h) F 5 = .int (F 5) := rfl
theorem cp1_5 {w : Value} {d : Int64} {h : Value} {F : Nat → Int32} (x : Int32) : va_up (kf (cr1 w d h) F) 5 (.int x) = kf (cr1 w d h) (upd F 5 x) := kf_up 5 x rfl
theorem cf1_6 {w : Value} {d : Int64} {h : Value} {F : Nat → Int32} : kf (cr1 w d h) F 6 = .int (F 6) := rfl
theorem cp1_6 {w : Value} {d : Int64} {h : Value} {F : Nat → Int32} (x : Int32) : va_up (kf (cr1 w d h) F) 6 (.int x) = kf (cr1 w d h) (upd F 6 x) := kf_up 6 x rfl
theorem cf1_7 {w : Value} {d : Int64} {h : Value} {F : Nat → Int32} : kf (cr1 w d h) F 7 = .int (F 7) := rfl
theorem cp1_7 {w : Value} {d : Int64} {h : Value} {F : Nat → Int32} (x : Int32) : va_up (kf (cr1 w d h) F) 7 (.int x) = kf (cr1 w d h) (upd F 7 x) := kf_up 7 x rfl
theorem cf1_8 {w : Value} {d : Int64} {h : Value} {F : Nat → Int32} : kf (cr1 w d h) F 8 = .int (F 8) := rfl
theorem cp1_8 {w : Value} {d : Int64} {h : Value} {F : Nat → Int32} (x : Int32) : va_up (kf (cr1 w d h) F) 8 (.int x) = kf (cr1 w d h) (upd F 8 x) := kf_up 8 x rfl
theorem cf1_9 {w : Value} {d : Int64} {h : Value} {F : Nat → Int32} : kf (cr1 w d h) F 9 = .int (F 9) := rfl
theorem cp1_9 {w : Value} {d : Int64} {h : Value} {F : Nat → Int32} (x : Int32) : va_up (kf (cr1 w d h) F) 9 (.int x) = kf (cr1 w d h) (upd F 9 x) := kf_up 9 x rfl
theorem cf1_10 {w : Value} {d : Int64} {h : Value} {F : Nat → Int32} : kf (cr1 w d h) F 10 = .int (F 10) := rfl
theorem cp1_10 {w : Value} {d : Int64} {h : Value} {F : Nat → Int32} (x : Int32) : va_up (kf (cr1 w d h) F) 10 (.int x) = kf (cr1 w d h) (upd F 10 x) := kf_up 10 x rfl
theorem cf1_11 {w : Value} {d : Int64} {h : Value} {F : Nat → Int32} : kf (cr1 w d h) F 11 = h := rfl
theorem cf1_12 {w : Value} {d : Int64} {h : Value} {F : Nat → Int32} : kf (cr1 w d h) F 12 = .int (F 12) := rfl
theorem cp1_12 {w : Value} {d : Int64} {h : Value} {F : Nat → Int32} (x : Int32) : va_up (kf (cr1 w d h) F) 12 (.int x) = kf (cr1 w d h) (upd F 12 x) := kf_up 12 x rfl
theorem cf1_13 {w : Value} {d : Int64} {h : Value} {F : Nat → Int32} : kf (cr1 w d h) F 13 = .int (F 13) := rfl
theorem cp1_13 {w : Value} {d : Int64} {h : Value} {F : Nat → Int32} (x : Int32) : va_up (kf (cr1 w d h) F) 13 (.int x) = kf (cr1 w d h) (upd F 13 x) := kf_up 13 x rfl
theorem cf1_14 {w : Value} {d : Int64} {h : Value} {F : Nat → Int32} : kf (cr1 w d h) F 14 = .int (F 14) := rfl
theorem cp1_14 {w : Value} {d : Int64} {h : Value} {F : Nat → Int32} (x : Int32) : va_up (kf (cr1 w d h) F) 14 (.int x) = kf (cr1 w d h) (upd F 14 x) := kf_up 14 x rfl
theorem cf1_15 {w : Value} {d : Int64} {h : Value} {F : Nat → Int32} : kf (cr1 w d h) F 15 = .int (F 15) := rfl
theorem cp1_15 {w : Value} {d : Int64} {h : Value} {F : Nat → Int32} (x : Int32) : va_up (kf (cr1 w d h) F) 15 (.int x) = kf (cr1 w d h) (upd F 15 x) := kf_up 15 x rfl
theorem cp1_2 {w : Value} {d : Int64} {h : Value} {F : Nat → Int32} (x : Value) : va_up (kf (cr1 w d h) F) 2 (x) = kf (cr1 x d h) F := by
  funext q
  unfold va_up
  by_cases e : q = 2
  · subst e; rfl
  · rw [if_neg e]
    unfold kf
    have : cr1 w d h q = cr1 x d h q := by unfold cr1; split <;> first | rfl | exact absurd rfl e
    rw [this]
theorem cp1_2r {w : Value} {d : Int64} {h : Value} {F : Nat → Int32} (x : Nat) : va_up (kf (cr1 w d h) F) 2 (.ref x) = kf (cr1 (.ref x) d h) F := cp1_2 _
theorem cp1_2n {w : Value} {d : Int64} {h : Value} {F : Nat → Int32} : va_up (kf (cr1 w d h) F) 2 .null = kf (cr1 .null d h) F := cp1_2 _
theorem cp1_3 {w : Value} {d : Int64} {h : Value} {F : Nat → Int32} (x : Int64) : va_up (kf (cr1 w d h) F) 3 (.long x) = kf (cr1 w x h) F := by
  funext q
  unfold va_up
  by_cases e : q = 3
  · subst e; rfl
  · rw [if_neg e]
    unfold kf
    have : cr1 w d h q = cr1 w x h q := by unfold cr1; split <;> first | rfl | exact absurd rfl e
    rw [this]
theorem cp1_11 {w : Value} {d : Int64} {h : Value} {F : Nat → Int32} (x : Value) : va_up (kf (cr1 w d h) F) 11 (x) = kf (cr1 w d x) F := by
  funext q
  unfold va_up
  by_cases e : q = 11
  · subst e; rfl
  · rw [if_neg e]
    unfold kf
    have : cr1 w d h q = cr1 w d x q := by unfold cr1; split <;> first | rfl | exact absurd rfl e
    rw [this]
theorem cp1_11r {w : Value} {d : Int64} {h : Value} {F : Nat → Int32} (x : Nat) : va_up (kf (cr1 w d h) F) 11 (.ref x) = kf (cr1 w d (.ref x)) F := cp1_11 _
theorem cp1_11n {w : Value} {d : Int64} {h : Value} {F : Nat → Int32} : va_up (kf (cr1 w d h) F) 11 .null = kf (cr1 w d .null) F := cp1_11 _
theorem cf2_0 {w : Nat} {F : Nat → Int32} : kf (cr2 w) F 0 = .ref (w + 4) := rfl
theorem cf2_1 {w : Nat} {F : Nat → Int32} : kf (cr2 w) F 1 = .int (F 1) := rfl
theorem cp2_1 {w : Nat} {F : Nat → Int32} (x : Int32) : va_up (kf (cr2 w) F) 1 (.int x) = kf (cr2 w) (upd F 1 x) := kf_up 1 x rfl
theorem cf2_2 {w : Nat} {F : Nat → Int32} : kf (cr2 w) F 2 = .ref (w + 5) := rfl
theorem cf3_0  {F : Nat → Int32} : kf cr3 F 0 = .ref 90 := rfl
theorem cf3_1  {F : Nat → Int32} : kf cr3 F 1 = .ref 91 := rfl
theorem cf3_2  {F : Nat → Int32} : kf cr3 F 2 = .ref 92 := rfl
theorem cf3_3  {F : Nat → Int32} : kf cr3 F 3 = .int (F 3) := rfl
theorem cp3_3  {F : Nat → Int32} (x : Int32) : va_up (kf cr3 F) 3 (.int x) = kf cr3 (upd F 3 x) := kf_up 3 x rfl
theorem cf4_0 {n : Value} {F : Nat → Int32} : kf (cr4 n) F 0 = .ref 82 := rfl
theorem cf4_1 {n : Value} {F : Nat → Int32} : kf (cr4 n) F 1 = .ref 83 := rfl
theorem cf4_2 {n : Value} {F : Nat → Int32} : kf (cr4 n) F 2 = .int (F 2) := rfl
theorem cp4_2 {n : Value} {F : Nat → Int32} (x : Int32) : va_up (kf (cr4 n) F) 2 (.int x) = kf (cr4 n) (upd F 2 x) := kf_up 2 x rfl
theorem cf4_3 {n : Value} {F : Nat → Int32} : kf (cr4 n) F 3 = .int (F 3) := rfl
theorem cp4_3 {n : Value} {F : Nat → Int32} (x : Int32) : va_up (kf (cr4 n) F) 3 (.int x) = kf (cr4 n) (upd F 3 x) := kf_up 3 x rfl
theorem cf4_4 {n : Value} {F : Nat → Int32} : kf (cr4 n) F 4 = .int (F 4) := rfl
theorem cp4_4 {n : Value} {F : Nat → Int32} (x : Int32) : va_up (kf (cr4 n) F) 4 (.int x) = kf (cr4 n) (upd F 4 x) := kf_up 4 x rfl
theorem cf4_5 {n : Value} {F : Nat → Int32} : kf (cr4 n) F 5 = .int (F 5) := rfl
theorem cp4_5 {n : Value} {F : Nat → Int32} (x : Int32) : va_up (kf (cr4 n) F) 5 (.int x) = kf (cr4 n) (upd F 5 x) := kf_up 5 x rfl
theorem cf4_6 {n : Value} {F : Nat → Int32} : kf (cr4 n) F 6 = n := rfl
theorem cf4_7 {n : Value} {F : Nat → Int32} : kf (cr4 n) F 7 = .int (F 7) := rfl
theorem cp4_7 {n : Value} {F : Nat → Int32} (x : Int32) : va_up (kf (cr4 n) F) 7 (.int x) = kf (cr4 n) (upd F 7 x) := kf_up 7 x rfl
theorem cp4_6 {n : Value} {F : Nat → Int32} (x : Value) : va_up (kf (cr4 n) F) 6 (x) = kf (cr4 x) F := by
  funext q
  unfold va_up
  by_cases e : q = 6
  · subst e; rfl
  · rw [if_neg e]
    unfold kf
    have : cr4 n q = cr4 x q := by unfold cr4; split <;> first | rfl | exact absurd rfl e
    rw [this]
theorem cp4_6r {n : Value} {F : Nat → Int32} (x : Nat) : va_up (kf (cr4 n) F) 6 (.ref x) = kf (cr4 (.ref x)) F := cp4_6 _
theorem cp4_6n {n : Value} {F : Nat → Int32} : va_up (kf (cr4 n) F) 6 .null = kf (cr4 .null) F := cp4_6 _
theorem cf5_0  {F : Nat → Int32} : kf cr5 F 0 = .ref 85 := rfl
theorem cf5_1  {F : Nat → Int32} : kf cr5 F 1 = .ref 86 := rfl
theorem cf5_2  {F : Nat → Int32} : kf cr5 F 2 = .ref 87 := rfl
theorem cf5_3  {F : Nat → Int32} : kf cr5 F 3 = .ref 88 := rfl
theorem cf5_4  {F : Nat → Int32} : kf cr5 F 4 = .int (F 4) := rfl
theorem cp5_4  {F : Nat → Int32} (x : Int32) : va_up (kf cr5 F) 4 (.int x) = kf cr5 (upd F 4 x) := kf_up 4 x rfl
theorem cf5_5  {F : Nat → Int32} : kf cr5 F 5 = .int (F 5) := rfl
theorem cp5_5  {F : Nat → Int32} (x : Int32) : va_up (kf cr5 F) 5 (.int x) = kf cr5 (upd F 5 x) := kf_up 5 x rfl
theorem cf5_6  {F : Nat → Int32} : kf cr5 F 6 = .int (F 6) := rfl
theorem cp5_6  {F : Nat → Int32} (x : Int32) : va_up (kf cr5 F) 6 (.int x) = kf cr5 (upd F 6 x) := kf_up 6 x rfl
theorem cf5_7  {F : Nat → Int32} : kf cr5 F 7 = .int (F 7) := rfl
theorem cp5_7  {F : Nat → Int32} (x : Int32) : va_up (kf cr5 F) 7 (.int x) = kf cr5 (upd F 7 x) := kf_up 7 x rfl
theorem cf5_8  {F : Nat → Int32} : kf cr5 F 8 = .int (F 8) := rfl
theorem cp5_8  {F : Nat → Int32} (x : Int32) : va_up (kf cr5 F) 8 (.int x) = kf cr5 (upd F 8 x) := kf_up 8 x rfl
theorem cf5_9  {F : Nat → Int32} : kf cr5 F 9 = .int (F 9) := rfl
theorem cp5_9  {F : Nat → Int32} (x : Int32) : va_up (kf cr5 F) 9 (.int x) = kf cr5 (upd F 9 x) := kf_up 9 x rfl
theorem cf6_0 {c : Value} {F : Nat → Int32} : kf (cr6 c) F 0 = .ref 79 := rfl
theorem cf6_1 {c : Value} {F : Nat → Int32} : kf (cr6 c) F 1 = .ref 80 := rfl
theorem cf6_2 {c : Value} {F : Nat → Int32} : kf (cr6 c) F 2 = c := rfl
theorem cf6_3 {c : Value} {F : Nat → Int32} : kf (cr6 c) F 3 = .int (F 3) := rfl
theorem cp6_3 {c : Value} {F : Nat → Int32} (x : Int32) : va_up (kf (cr6 c) F) 3 (.int x) = kf (cr6 c) (upd F 3 x) := kf_up 3 x rfl
theorem cf6_4 {c : Value} {F : Nat → Int32} : kf (cr6 c) F 4 = .int (F 4) := rfl
theorem cp6_4 {c : Value} {F : Nat → Int32} (x : Int32) : va_up (kf (cr6 c) F) 4 (.int x) = kf (cr6 c) (upd F 4 x) := kf_up 4 x rfl
theorem cp6_2 {c : Value} {F : Nat → Int32} (x : Value) : va_up (kf (cr6 c) F) 2 (x) = kf (cr6 x) F := by
  funext q
  unfold va_up
  by_cases e : q = 2
  · subst e; rfl
  · rw [if_neg e]
    unfold kf
    have : cr6 c q = cr6 x q := by unfold cr6; split <;> first | rfl | exact absurd rfl e
    rw [this]
theorem cp6_2r {c : Value} {F : Nat → Int32} (x : Nat) : va_up (kf (cr6 c) F) 2 (.ref x) = kf (cr6 (.ref x)) F := cp6_2 _
theorem cp6_2n {c : Value} {F : Nat → Int32} : va_up (kf (cr6 c) F) 2 .null = kf (cr6 .null) F := cp6_2 _
theorem cf7_0  {F : Nat → Int32} : kf cr7 F 0 = .ref 72 := rfl
theorem cf7_1  {F : Nat → Int32} : kf cr7 F 1 = .ref 73 := rfl
theorem cf7_2  {F : Nat → Int32} : kf cr7 F 2 = .ref 74 := rfl
theorem cf7_3  {F : Nat → Int32} : kf cr7 F 3 = .ref 75 := rfl
theorem cf7_4  {F : Nat → Int32} : kf cr7 F 4 = .int (F 4) := rfl
theorem cp7_4  {F : Nat → Int32} (x : Int32) : va_up (kf cr7 F) 4 (.int x) = kf cr7 (upd F 4 x) := kf_up 4 x rfl
theorem cf7_5  {F : Nat → Int32} : kf cr7 F 5 = .ref 76 := rfl
theorem cf7_6  {F : Nat → Int32} : kf cr7 F 6 = .ref 77 := rfl
theorem cf7_7  {F : Nat → Int32} : kf cr7 F 7 = .int (F 7) := rfl
theorem cp7_7  {F : Nat → Int32} (x : Int32) : va_up (kf cr7 F) 7 (.int x) = kf cr7 (upd F 7 x) := kf_up 7 x rfl
theorem cf7_8  {F : Nat → Int32} : kf cr7 F 8 = .int (F 8) := rfl
theorem cp7_8  {F : Nat → Int32} (x : Int32) : va_up (kf cr7 F) 8 (.int x) = kf cr7 (upd F 8 x) := kf_up 8 x rfl
theorem cf8_0 {t : Value} {w : Value} {F : Nat → Int32} : kf (cr8 t w) F 0 = t := rfl
theorem cf8_1 {t : Value} {w : Value} {F : Nat → Int32} : kf (cr8 t w) F 1 = .int (F 1) := rfl
theorem cp8_1 {t : Value} {w : Value} {F : Nat → Int32} (x : Int32) : va_up (kf (cr8 t w) F) 1 (.int x) = kf (cr8 t w) (upd F 1 x) := kf_up 1 x rfl
theorem cf8_2 {t : Value} {w : Value} {F : Nat → Int32} : kf (cr8 t w) F 2 = .int (F 2) := rfl
theorem cp8_2 {t : Value} {w : Value} {F : Nat → Int32} (x : Int32) : va_up (kf (cr8 t w) F) 2 (.int x) = kf (cr8 t w) (upd F 2 x) := kf_up 2 x rfl
theorem cf8_3 {t : Value} {w : Value} {F : Nat → Int32} : kf (cr8 t w) F 3 = .int (F 3) := rfl
theorem cp8_3 {t : Value} {w : Value} {F : Nat → Int32} (x : Int32) : va_up (kf (cr8 t w) F) 3 (.int x) = kf (cr8 t w) (upd F 3 x) := kf_up 3 x rfl
theorem cf8_4 {t : Value} {w : Value} {F : Nat → Int32} : kf (cr8 t w) F 4 = .int (F 4) := rfl
theorem cp8_4 {t : Value} {w : Value} {F : Nat → Int32} (x : Int32) : va_up (kf (cr8 t w) F) 4 (.int x) = kf (cr8 t w) (upd F 4 x) := kf_up 4 x rfl
theorem cf8_5 {t : Value} {w : Value} {F : Nat → Int32} : kf (cr8 t w) F 5 = .int (F 5) := rfl
theorem cp8_5 {t : Value} {w : Value} {F : Nat → Int32} (x : Int32) : va_up (kf (cr8 t w) F) 5 (.int x) = kf (cr8 t w) (upd F 5 x) := kf_up 5 x rfl
theorem cf8_6 {t : Value} {w : Value} {F : Nat → Int32} : kf (cr8 t w) F 6 = .int (F 6) := rfl
theorem cp8_6 {t : Value} {w : Value} {F : Nat → Int32} (x : Int32) : va_up (kf (cr8 t w) F) 6 (.int x) = kf (cr8 t w) (upd F 6 x) := kf_up 6 x rfl
theorem cf8_7 {t : Value} {w : Value} {F : Nat → Int32} : kf (cr8 t w) F 7 = .int (F 7) := rfl
theorem cp8_7 {t : Value} {w : Value} {F : Nat → Int32} (x : Int32) : va_up (kf (cr8 t w) F) 7 (.int x) = kf (cr8 t w) (upd F 7 x) := kf_up 7 x rfl
theorem cf8_8 {t : Value} {w : Value} {F : Nat → Int32} : kf (cr8 t w) F 8 = .int (F 8) := rfl
theorem cp8_8 {t : Value} {w : Value} {F : Nat → Int32} (x : Int32) : va_up (kf (cr8 t w) F) 8 (.int x) = kf (cr8 t w) (upd F 8 x) := kf_up 8 x rfl
theorem cf8_9 {t : Value} {w : Value} {F : Nat → Int32} : kf (cr8 t w) F 9 = w := rfl
theorem cp8_0 {t : Value} {w : Value} {F : Nat → Int32} (x : Value) : va_up (kf (cr8 t w) F) 0 (x) = kf (cr8 x w) F := by
  funext q
  unfold va_up
  by_cases e : q = 0
  · subst e; rfl
  · rw [if_neg e]
    unfold kf
    have : cr8 t w q = cr8 x w q := by unfold cr8; split <;> first | rfl | exact absurd rfl e
    rw [this]
theorem cp8_0r {t : Value} {w : Value} {F : Nat → Int32} (x : Nat) : va_up (kf (cr8 t w) F) 0 (.ref x) = kf (cr8 (.ref x) w) F := cp8_0 _
theorem cp8_0n {t : Value} {w : Value} {F : Nat → Int32} : va_up (kf (cr8 t w) F) 0 .null = kf (cr8 .null w) F := cp8_0 _
theorem cp8_9 {t : Value} {w : Value} {F : Nat → Int32} (x : Value) : va_up (kf (cr8 t w) F) 9 (x) = kf (cr8 t x) F := by
  funext q
  unfold va_up
  by_cases e : q = 9
  · subst e; rfl
  · rw [if_neg e]
    unfold kf
    have : cr8 t w q = cr8 t x q := by unfold cr8; split <;> first | rfl | exact absurd rfl e
    rw [this]
theorem cp8_9r {t : Value} {w : Value} {F : Nat → Int32} (x : Nat) : va_up (kf (cr8 t w) F) 9 (.ref x) = kf (cr8 t (.ref x)) F := cp8_9 _
theorem cp8_9n {t : Value} {w : Value} {F : Nat → Int32} : va_up (kf (cr8 t w) F) 9 .null = kf (cr8 t .null) F := cp8_9 _
theorem cf9_0 {w : Nat} {F : Nat → Int32} : kf (cr9 w) F 0 = .int (F 0) := rfl
theorem cp9_0 {w : Nat} {F : Nat → Int32} (x : Int32) : va_up (kf (cr9 w) F) 0 (.int x) = kf (cr9 w) (upd F 0 x) := kf_up 0 x rfl
theorem cf9_1 {w : Nat} {F : Nat → Int32} : kf (cr9 w) F 1 = .int (F 1) := rfl
theorem cp9_1 {w : Nat} {F : Nat → Int32} (x : Int32) : va_up (kf (cr9 w) F) 1 (.int x) = kf (cr9 w) (upd F 1 x) := kf_up 1 x rfl
theorem cf9_2 {w : Nat} {F : Nat → Int32} : kf (cr9 w) F 2 = .int (F 2) := rfl
theorem cp9_2 {w : Nat} {F : Nat → Int32} (x : Int32) : va_up (kf (cr9 w) F) 2 (.int x) = kf (cr9 w) (upd F 2 x) := kf_up 2 x rfl
theorem cf9_3 {w : Nat} {F : Nat → Int32} : kf (cr9 w) F 3 = .int (F 3) := rfl
theorem cp9_3 {w : Nat} {F : Nat → Int32} (x : Int32) : va_up (kf (cr9 w) F) 3 (.int x) = kf (cr9 w) (upd F 3 x) := kf_up 3 x rfl
theorem cf9_4 {w : Nat} {F : Nat → Int32} : kf (cr9 w) F 4 = .int (F 4) := rfl
theorem cp9_4 {w : Nat} {F : Nat → Int32} (x : Int32) : va_up (kf (cr9 w) F) 4 (.int x) = kf (cr9 w) (upd F 4 x) := kf_up 4 x rfl
theorem cf9_5 {w : Nat} {F : Nat → Int32} : kf (cr9 w) F 5 = .int (F 5) := rfl
theorem cp9_5 {w : Nat} {F : Nat → Int32} (x : Int32) : va_up (kf (cr9 w) F) 5 (.int x) = kf (cr9 w) (upd F 5 x) := kf_up 5 x rfl
theorem cf9_6 {w : Nat} {F : Nat → Int32} : kf (cr9 w) F 6 = .int (F 6) := rfl
theorem cp9_6 {w : Nat} {F : Nat → Int32} (x : Int32) : va_up (kf (cr9 w) F) 6 (.int x) = kf (cr9 w) (upd F 6 x) := kf_up 6 x rfl
theorem cf9_7 {w : Nat} {F : Nat → Int32} : kf (cr9 w) F 7 = .int (F 7) := rfl
theorem cp9_7 {w : Nat} {F : Nat → Int32} (x : Int32) : va_up (kf (cr9 w) F) 7 (.int x) = kf (cr9 w) (upd F 7 x) := kf_up 7 x rfl
theorem cf9_8 {w : Nat} {F : Nat → Int32} : kf (cr9 w) F 8 = .int (F 8) := rfl
theorem cp9_8 {w : Nat} {F : Nat → Int32} (x : Int32) : va_up (kf (cr9 w) F) 8 (.int x) = kf (cr9 w) (upd F 8 x) := kf_up 8 x rfl
theorem cf9_9 {w : Nat} {F : Nat → Int32} : kf (cr9 w) F 9 = .int (F 9) := rfl
theorem cp9_9 {w : Nat} {F : Nat → Int32} (x : Int32) : va_up (kf (cr9 w) F) 9 (.int x) = kf (cr9 w) (upd F 9 x) := kf_up 9 x rfl
theorem cf9_10 {w : Nat} {F : Nat → Int32} : kf (cr9 w) F 10 = .int (F 10) := rfl
theorem cp9_10 {w : Nat} {F : Nat → Int32} (x : Int32) : va_up (kf (cr9 w) F) 10 (.int x) = kf (cr9 w) (upd F 10 x) := kf_up 10 x rfl
theorem cf9_11 {w : Nat} {F : Nat → Int32} : kf (cr9 w) F 11 = .int (F 11) := rfl
theorem cp9_11 {w : Nat} {F : Nat → Int32} (x : Int32) : va_up (kf (cr9 w) F) 11 (.int x) = kf (cr9 w) (upd F 11 x) := kf_up 11 x rfl
theorem cf9_12 {w : Nat} {F : Nat → Int32} : kf (cr9 w) F 12 = .int (F 12) := rfl
theorem cp9_12 {w : Nat} {F : Nat → Int32} (x : Int32) : va_up (kf (cr9 w) F) 12 (.int x) = kf (cr9 w) (upd F 12 x) := kf_up 12 x rfl
theorem cf9_13 {w : Nat} {F : Nat → Int32} : kf (cr9 w) F 13 = .ref (w + 1) := rfl
theorem cf9_14 {w : Nat} {F : Nat → Int32} : kf (cr9 w) F 14 = .int (F 14) := rfl
theorem cp9_14 {w : Nat} {F : Nat → Int32} (x : Int32) : va_up (kf (cr9 w) F) 14 (.int x) = kf (cr9 w) (upd F 14 x) := kf_up 14 x rfl
theorem cf9_15 {w : Nat} {F : Nat → Int32} : kf (cr9 w) F 15 = .ref (w + 2) := rfl
theorem cf9_16 {w : Nat} {F : Nat → Int32} : kf (cr9 w) F 16 = .ref (w + 3) := rfl
theorem cf10_0 {s : Value} {F : Nat → Int32} : kf (cr10 s) F 0 = .ref 65 := rfl
theorem cf10_1 {s : Value} {F : Nat → Int32} : kf (cr10 s) F 1 = .ref 67 := rfl
theorem cf10_2 {s : Value} {F : Nat → Int32} : kf (cr10 s) F 2 = .int (F 2) := rfl
theorem cp10_2 {s : Value} {F : Nat → Int32} (x : Int32) : va_up (kf (cr10 s) F) 2 (.int x) = kf (cr10 s) (upd F 2 x) := kf_up 2 x rfl
theorem cf10_3 {s : Value} {F : Nat → Int32} : kf (cr10 s) F 3 = .ref 68 := rfl
theorem cf10_4 {s : Value} {F : Nat → Int32} : kf (cr10 s) F 4 = s := rfl
theorem cf10_5 {s : Value} {F : Nat → Int32} : kf (cr10 s) F 5 = .int (F 5) := rfl
theorem cp10_5 {s : Value} {F : Nat → Int32} (x : Int32) : va_up (kf (cr10 s) F) 5 (.int x) = kf (cr10 s) (upd F 5 x) := kf_up 5 x rfl
theorem cf10_6 {s : Value} {F : Nat → Int32} : kf (cr10 s) F 6 = .ref 69 := rfl
theorem cf10_7 {s : Value} {F : Nat → Int32} : kf (cr10 s) F 7 = .int (F 7) := rfl
theorem cp10_7 {s : Value} {F : Nat → Int32} (x : Int32) : va_up (kf (cr10 s) F) 7 (.int x) = kf (cr10 s) (upd F 7 x) := kf_up 7 x rfl
theorem cf10_8 {s : Value} {F : Nat → Int32} : kf (cr10 s) F 8 = .ref 70 := rfl
theorem cf10_9 {s : Value} {F : Nat → Int32} : kf (cr10 s) F 9 = .ref 71 := rfl
theorem cf10_10 {s : Value} {F : Nat → Int32} : kf (cr10 s) F 10 = .int (F 10) := rfl
theorem cp10_10 {s : Value} {F : Nat → Int32} (x : Int32) : va_up (kf (cr10 s) F) 10 (.int x) = kf (cr10 s) (upd F 10 x) := kf_up 10 x rfl
theorem cf10_11 {s : Value} {F : Nat → Int32} : kf (cr10 s) F 11 = .int (F 11) := rfl
theorem cp10_11 {s : Value} {F : Nat → Int32} (x : Int32) : va_up (kf (cr10 s) F) 11 (.int x) = kf (cr10 s) (upd F 11 x) := kf_up 11 x rfl
theorem cf10_12 {s : Value} {F : Nat → Int32} : kf (cr10 s) F 12 = .ref 78 := rfl
theorem cf10_13 {s : Value} {F : Nat → Int32} : kf (cr10 s) F 13 = .ref 81 := rfl
theorem cf10_14 {s : Value} {F : Nat → Int32} : kf (cr10 s) F 14 = .ref 84 := rfl
theorem cf10_15 {s : Value} {F : Nat → Int32} : kf (cr10 s) F 15 = .ref 89 := rfl
theorem cp10_4 {s : Value} {F : Nat → Int32} (x : Value) : va_up (kf (cr10 s) F) 4 (x) = kf (cr10 x) F := by
  funext q
  unfold va_up
  by_cases e : q = 4
  · subst e; rfl
  · rw [if_neg e]
    unfold kf
    have : cr10 s q = cr10 x q := by unfold cr10; split <;> first | rfl | exact absurd rfl e
    rw [this]
theorem cp10_4r {s : Value} {F : Nat → Int32} (x : Nat) : va_up (kf (cr10 s) F) 4 (.ref x) = kf (cr10 (.ref x)) F := cp10_4 _
theorem cp10_4n {s : Value} {F : Nat → Int32} : va_up (kf (cr10 s) F) 4 .null = kf (cr10 .null) F := cp10_4 _
/-! worlds: one cell put -/
theorem ks_at (P : kx_P) (a : Nat) (x : Option kx_C) (n : Nat) : kx_set P a x n = if n = a then x else P n := rfl
theorem ks_eq (P : kx_P) (a : Nat) (x : Option kx_C) : kx_set P a x a = x := if_pos rfl
theorem ks_ne {P : kx_P} {a n : Nat} {x : Option kx_C} (h : ¬ n = a) : kx_set P a x n = P n := if_neg h
theorem ks_ss (P : kx_P) (a : Nat) (x y : Option kx_C) : kx_set (kx_set P a x) a y = kx_set P a y := by
  funext n
  unfold kx_set
  by_cases e : n = a
  · rw [if_pos e, if_pos e]
  · rw [if_neg e, if_neg e, if_neg e]
theorem ks_co {P : kx_P} {a b : Nat} (x y : Option kx_C) (h : ¬ a = b) : kx_set (kx_set P a x) b y = kx_set (kx_set P b y) a x := by
  funext n
  unfold kx_set
  by_cases e : n = b
  · subst e
    rw [if_pos rfl, if_neg (fun q => h q.symm), if_pos rfl]
  · rw [if_neg e, if_neg e]
theorem ks_id {P : kx_P} {a : Nat} {x : Option kx_C} (h : P a = x) : kx_set P a x = P := by
  funext n
  unfold kx_set
  by_cases e : n = a
  · rw [if_pos e, e, h]
  · rw [if_neg e]

/-! two worlds that say the same: of objects only the fields they have count -/
def kz_w (P P2 : kx_P) : Prop := ∀ n x, P2 n = some x → P n = some x ∨ ∃ c f f2, c < 12 ∧ P n = kO c f ∧ some x = kO c f2 ∧ ∀ j, j < kx_N c → f j = f2 j
theorem kz_w.rf (P : kx_P) : kz_w P P := fun _ _ h => Or.inl h
theorem kx_W.eqv {G : kx_G} {P P2 : kx_P} {sz : Nat} {H : Heap} (h : kx_W G P sz H) (e : kz_w P P2) : kx_W G P2 sz H := by
  refine ⟨h.1, h.2.1, h.2.2.1, fun n x hx => ?_⟩
  rcases e n x hx with h1 | ⟨c, f, f2, hc, h1, h2, h3⟩
  · exact h.2.2.2 n x h1
  · obtain ⟨q1, q2⟩ := h.2.2.2 n _ h1
    cases h2
    obtain ⟨r, e1, e2⟩ := q2
    refine ⟨q1, r, e1, ?_⟩
    rw [kx_T_at hc] at e1
    cases e1
    exact e2.to fun j hj => by rw [h3 j hj]
theorem kx_Mn.w {l : Launch} {G : kx_G} {y : kx_S} {d mc ms : Nat} {As : List Value} {P : kx_P} {sz : Nat} {Po : Option Value → kx_P → Nat → Prop} {r : Option Value} {P2 : kx_P} {s2 : Nat} (h : kx_Mn l G y d mc ms As P sz Po) (hp : ∀ r1 P1 s1, Po r1 P1 s1 → r1 = r ∧ kz_w P1 P2 ∧ s1 = s2) : kx_M l G y d mc ms As P sz r P2 s2 := by
  intro p e ha hc hk s m args below hf happ hP hK
  obtain ⟨n, o, h1, h2, h3, ⟨r1, P1, s1, h0, h4, h5⟩, h6⟩ := h p e ha hc hk s m args below hf happ hP hK
  obtain ⟨rfl, e2, rfl⟩ := hp _ _ _ h0
  exact ⟨n, o, h1, h2, h3, ⟨h4, h5.eqv e2⟩, h6⟩
theorem ks_93 {P : kx_P} {a n : Nat} {x y z : Option kx_C} (h : ¬ n = a) : kx_set (kx_set (kx_set P a x) n y) a z = kx_set (kx_set P n y) a z := by
  funext k
  unfold kx_set
  by_cases e : k = a
  · simp only [if_pos e]
  · simp only [if_neg e]
theorem ks_n93 {P : kx_P} {a n : Nat} {x y : Option kx_C} (h : ¬ a = n) : kx_set (kx_set P a x) n y a = x := by
  unfold kx_set
  rw [if_neg h, if_pos rfl]
/-! more rules of a body: what the blocks don't hold -/
def kz_pk (l : Launch) (G : kx_G) (L : kx_L) (ini : Bool) (cc : ByteArray) (d : Nat) (g : kx_F) : Prop := ∃ (p : Program) (e : Env) (R : Room) (s : State) (m : MethodId) (args : Array Value) (below : List Frame) (meth : Method) (c : Code) (Q : State → Prop), g = kx_g p l e R s m args below meth c Q G ∧ kx_B p s m args meth c R G L ini cc ∧ R.frames = d ∧ R.locals = 64 * d + 64
theorem kz_ofW {l : Launch} {y : MethodName} {ws ws' : List Cond} {rm : Room} {Pc : Array Value → State → Prop} {Qc : Array Value → State → Outcome → State → Prop} {mc ms : Nat} {free : Addr → Prop} {cc : ByteArray} {maxL : Nat} {ret : Option FieldType}
    (hy : plainFor y = true) (hw : ws = Cond.code y cc maxL ret :: ws')
    (body : ∀ p e s m args below meth c s₁, BodyLoose p l y (headSpec ws rm) cc maxL ret e s m args below meth c s₁ → c.maxLocals = maxL → Pc args s →
      W p l e (headSpec ws rm).room s m args below meth c s.heap [] 0 0 (MQ below Qc args s mc ms free) (entryFrame m args maxL)) : Met l y ws rm Pc Qc mc ms free := by
  refine MetFree.of_bodySF (code := cc) (maxLocals := maxL) (ret := ret) hy ?_ ?_
  · intro args s m h hn
    obtain ⟨meth, c, h1, h2, h3, h4, h5, h6, -, -⟩ := Cond.code_spec hn (atoms_spec (ws := ws) h _ (by rw [hw]; exact List.mem_cons_self))
    exact ⟨meth, c, h1, h2, h3, h4, h5, h6⟩
  · intro p e s m args below meth c s₁ B hml hP _
    have hh0 : s₁.heap = s.heap := by rw [B.state]; rfl
    obtain ⟨t, a1, o, b1, b2, b3⟩ := body p e s m args below meth c s₁ B hml hP s₁ hh0 (Stand.of_body B)
    exact ⟨t, o, a1, b1, b2, ⟨b3.1, b3.2⟩⟩
theorem kz_mk {l : Launch} {G : kx_G} {y : kx_S} {L : kx_L} {ini : Bool} {d mc ms : Nat} {As : List Value} {P : kx_P} {sz : Nat} {Po : Option Value → kx_P → Nat → Prop} (T0 : kx_Tab) (hL : kx_Lok L) (ls0 : List (Option Value))
    (hy : plainFor y.1 = true ∧ y.1.cls = L.1 ∧ (ini = true → y.1.name = "<init>") ∧ 1 ≤ d) (hr9 : ∀ r P' sz', Po r P' sz' → kx_rok y.2.2.2 r) (hin : kx_in As y.2.2.1 = ls0) (hlen : ls0.length = y.2.2.1)
    (body : ∀ g : kx_F, kx_rB L ini y.2.1 mc ms Po g → kx_rC l G L.1 y.2.1 d mc ms g → kx_rN l G L.1 y.2.1 d mc ms g → kz_pk l G L ini y.2.1 d g → g 0 ls0 [] P sz 0 0) : kx_Mn l G y d mc ms As P sz Po := by
  obtain ⟨hy1, hy2, hy3, hd⟩ := hy
  refine kz_ofW (cc := y.2.1) (maxL := y.2.2.1) (ret := y.2.2.2) hy1 rfl ?_
  intro p e s m args below meth c s₁ B hml hv
  obtain ⟨rfl, hW, hK⟩ := hv
  have hts := atoms_spec (ws := kx_W0 y) B.pre
  have hown : s.vm.findClass L.1 = some m.cls := by rw [← hy2]; exact findClass_of_methodNamed B.named
  have hB : kx_B p s m (As.map (kx_v G.2.1)).toArray meth c (kx_rm d mc ms) G L ini y.2.1 :=
    ⟨B.exec, B.bytes, hown, fun w hw => hts w (List.mem_cons_of_mem _ hw), hK, hL, fun h => by rw [← hy3 h]; exact (name_of_methodNamed B.named B.method).1, hd, by show 12 ≤ 64 * d + 64; omega⟩
  have hlocks := B.notSynchronized
  have hrt := B.returns
  have key := body (kx_g p l e (kx_rm d mc ms) s m (As.map (kx_v G.2.1)).toArray below meth c (MQ below (kx_Qn G Po) (As.map (kx_v G.2.1)).toArray s mc ms (fun q => G.2.2.2.1.size ≤ q)) G)
    (kx_blk T0 hB ?_) (kx_call hB rfl rfl) (kx_calln hB rfl rfl) ⟨p, e, _, s, m, _, below, meth, c, _, rfl, hB, rfl, rfl⟩
  · rw [lg_entry_eq]
    have hl := lv_entry (As.map (kx_v G.2.1)) (n := y.2.2.1) (kx_in_sl _ _ _ (by rw [hin]; exact hlen))
    refine key _ s.heap [] (hlen.trans hml.symm) ⟨hl.1.trans hlen.symm, hl.2.1, fun i v hi => ?_⟩ hW (fun q hq => by cases hq) (Nat.zero_le _) (Nat.zero_le _)
    rw [← hin] at hi
    have := kx_in_args G.2.1 As _ 0 i v hi
    rw [Nat.zero_add] at this
    exact hl.2.2 _ this
  · intro i vo pc lsr H locs P2 s2 k n hd9 hi hq hW2 hlo hk hn
    have hr := hr9 _ _ _ hq
    refine W.widen hk hn ?_
    show W p l e (kx_rm d mc ms) s m _ below meth c H locs mc ms _ _
    rcases hi with ⟨rfl, x, rfl⟩ | ⟨rfl, x, rfl⟩ | ⟨rfl, hx⟩ | ⟨rfl, rfl⟩
    · rcases kx_rok_i hr with h9 | ⟨h9, rfl | rfl⟩
      · rw [h9] at hrt
        exact W.iret B.exec B.bytes hrt (fun t ht hWm => ⟨_, P2, s2, hq, rfl, by rw [ht]; exact hW2⟩) hlo hd9 hlocks
      · rw [h9] at hrt
        exact W.zret B.exec B.bytes hrt rfl (fun t ht hWm => ⟨_, P2, s2, hq, rfl, by rw [ht]; exact hW2⟩) hlo hd9 hlocks
      · rw [h9] at hrt
        exact W.zret B.exec B.bytes hrt rfl (fun t ht hWm => ⟨_, P2, s2, hq, rfl, by rw [ht]; exact hW2⟩) hlo hd9 hlocks
    · rw [kx_rok_l hr] at hrt
      exact W.lret B.exec B.bytes hrt (fun t ht hWm => ⟨_, P2, s2, hq, rfl, by rw [ht]; exact hW2⟩) hlo hd9 hlocks
    · rcases hx with rfl | ⟨q, rfl⟩
      · obtain ⟨C, h9⟩ := kx_rok_a hr (Or.inl rfl)
        rw [h9] at hrt
        exact W.aret B.exec B.bytes hrt (Or.inl ⟨_, rfl⟩) (Or.inl rfl) (fun t ht hWm => ⟨_, P2, s2, hq, rfl, by rw [ht]; exact hW2⟩) hlo hd9 hlocks
      · obtain ⟨C, h9⟩ := kx_rok_a hr (Or.inr ⟨q, rfl⟩)
        rw [h9] at hrt
        exact W.aret B.exec B.bytes hrt (Or.inl ⟨_, rfl⟩) (Or.inr ⟨_, rfl⟩) (fun t ht hWm => ⟨_, P2, s2, hq, rfl, by rw [ht]; exact hW2⟩) hlo hd9 hlocks
    · rw [kx_rok_v hr] at hrt
      exact W.vret B.exec B.bytes hrt (fun t ht hWm => ⟨_, P2, s2, hq, rfl, by rw [ht]; exact hW2⟩) hlo hd9 hlocks
theorem kz_xor {l : Launch} {G : kx_G} {L : kx_L} {ini : Bool} {cc : ByteArray} {d : Nat} {g : kx_F} (h : kz_pk l G L ini cc d g) (pc : Nat) {ls : List (Option Value)} {x y : Int64} {r : List Value} {P : kx_P} {sz k n : Nat} (hd : decode cc pc = .ok (.lxor, 1)) (kk : g (pc + 1) ls (.long (x ^^^ y) :: r) P sz k n) : g pc ls (.long y :: .long x :: r) P sz k n := by
  obtain ⟨p, e, R, s, m, args, below, meth, c, Q, rfl, B, -, -⟩ := h
  intro lsr H locs hlen hls hW hlo hkc hks
  exact lv_lxor B.1 B.2.1 hd (kk lsr H locs hlen hls hW hlo hkc hks)
/-- a relation with one end is a contract -/
theorem kx_Mn.d {l : Launch} {G : kx_G} {y : kx_S} {d mc ms : Nat} {As : List Value} {P : kx_P} {sz : Nat} {Po : Option Value → kx_P → Nat → Prop} {r : Option Value} {P2 : kx_P} {s2 : Nat} (h : kx_Mn l G y d mc ms As P sz Po) (hp : ∀ r1 P1 s1, Po r1 P1 s1 → r1 = r ∧ P1 = P2 ∧ s1 = s2) : kx_M l G y d mc ms As P sz r P2 s2 :=
  h.w fun r1 P1 s1 q => ⟨(hp r1 P1 s1 q).1, by rw [(hp r1 P1 s1 q).2.1]; exact kz_w.rf _, (hp r1 P1 s1 q).2.2⟩
theorem kz_mkj {l : Launch} {G : kx_G} {y : kx_S} {L : kx_L} {ini : Bool} {d mc ms : Nat} {As : List Value} {P : kx_P} {sz : Nat} {r : Option Value} {P' : kx_P} {sz' : Nat} (T0 : kx_Tab) (hL : kx_Lok L) (ls0 : List (Option Value))
    (hy : plainFor y.1 = true ∧ y.1.cls = L.1 ∧ (ini = true → y.1.name = "<init>") ∧ 1 ≤ d) (hr : kx_rok y.2.2.2 r) (hin : kx_in As y.2.2.1 = ls0) (hlen : ls0.length = y.2.2.1)
    (body : ∀ g : kx_F, kx_rB L ini y.2.1 mc ms (fun r2 P2 s2 => r2 = r ∧ P2 = P' ∧ s2 = sz') g → kx_rC l G L.1 y.2.1 d mc ms g → kz_pk l G L ini y.2.1 d g → g 0 ls0 [] P sz 0 0) : kx_M l G y d mc ms As P sz r P' sz' :=
  kx_Mn.d (kz_mk T0 hL ls0 hy (fun _ _ _ h => by rw [h.1]; exact hr) hin hlen (fun g hB hC _ hK => body g hB hC hK)) fun _ _ _ h => h

/-! the model: its scalars M (by field), its arrays A, L (by name), all else R -/
def kf (R : Nat → Option Value) (F : Nat → Int32) : Nat → Value := fun j => match R j with | some v => v | none => .int (F j)
theorem kf_i {R : Nat → Option Value} {F : Nat → Int32} (j : Nat) (h : R j = none) : kf R F j = .int (F j) := by simp [kf, h]
theorem kf_v {R : Nat → Option Value} {F : Nat → Int32} (j : Nat) {v : Value} (h : R j = some v) : kf R F j = v := by simp [kf, h]
theorem kf_up {R : Nat → Option Value} {F : Nat → Int32} (j : Nat) (x : Int32) (h : R j = none) : va_up (kf R F) j (.int x) = kf R (upd F j x) := by
  funext n
  unfold va_up kf upd
  by_cases e : n = j
  · subst e; simp [h]
  · simp [e]
def mR : Nat → Option Value := fun j => match j with
  | 4 => some (.ref 94)
  | 16 => some (.ref 95)
  | 17 => some (.ref 96)
  | 18 => some (.ref 97)
  | 19 => some (.ref 98)
  | 20 => some (.ref 99)
  | 23 => some (.ref 100)
  | 24 => some (.ref 101)
  | 25 => some (.ref 102)
  | 26 => some (.ref 103)
  | 27 => some (.ref 104)
  | 28 => some (.ref 105)
  | 29 => some (.ref 106)
  | 30 => some (.ref 107)
  | 31 => some (.ref 108)
  | 32 => some (.ref 109)
  | 33 => some (.ref 110)
  | 34 => some (.ref 111)
  | 35 => some (.ref 112)
  | 36 => some (.ref 113)
  | 37 => some (.ref 114)
  | 38 => some (.ref 115)
  | 39 => some (.ref 116)
  | 40 => some (.ref 117)
  | 41 => some (.ref 118)
  | 42 => some (.ref 119)
  | 43 => some (.ref 120)
  | 44 => some (.ref 121)
  | 45 => some (.ref 122)
  | 46 => some (.ref 123)
  | 56 => some (.ref 124)
  | 57 => some (.ref 125)
  | 64 => some (.ref 126)
  | 65 => some (.ref 127)
  | 69 => some (.ref 128)
  | 70 => some (.ref 129)
  | 72 => some (.ref 130)
  | 73 => some (.ref 131)
  | 74 => some (.ref 132)
  | 75 => some (.ref 133)
  | 81 => some (.ref 134)
  | 82 => some (.ref 135)
  | 83 => some (.ref 136)
  | 85 => some (.ref 137)
  | 86 => some (.ref 138)
  | 87 => some (.ref 139)
  | 88 => some (.ref 140)
  | 89 => some (.ref 141)
  | 90 => some (.ref 142)
  | _ => none
def mLen (n : Nat) : Nat := match n with
  | 94 => 1700
  | 95 => 400
  | 96 => 16
  | 97 => 400
  | 98 => 400
  | 99 => 24
  | 102 => 128
  | 104 => 192
  | 106 => 3200
  | 107 => 3200
  | 118 => 200
  | 119 => 200
  | 120 => 200
  | 121 => 200
  | 122 => 13600
  | 123 => 64
  | 124 => 120
  | 125 => 120
  | 126 => 6
  | 127 => 6
  | 128 => 4
  | 129 => 161051
  | 130 => 100
  | 131 => 100
  | 132 => 100
  | 133 => 100
  | 134 => 40
  | 135 => 40
  | 136 => 40
  | _ => 8
def mW (M : Nat → Int32) (A : Nat → Nat → Int32) (L : Nat → Nat → Int64) (R : kx_P) : kx_P := fun n => if n = 93 then kO 11 (kf mR M) else if n = 116 ∨ n = 142 then kL 8 (L n) else if n = 117 then kI 2 8 (A n) else if 94 ≤ n ∧ n ≤ 142 then kI 0 (mLen n) (A n) else R n
section MW
variable {M : Nat → Int32} {A : Nat → Nat → Int32} {L : Nat → Nat → Int64} {R : kx_P}
theorem mW_o : mW M A L R 93 = kO 11 (kf mR M) := rfl
theorem mW_so (M2 : Nat → Int32) : kx_set (mW M A L R) 93 (kO 11 (kf mR M2)) = mW M2 A L R := by
  funext n
  unfold kx_set mW
  by_cases e : n = 93
  · rw [if_pos e, if_pos e]
  · rw [if_neg e, if_neg e, if_neg e]
theorem mW_sA (k : Nat) (g : Nat → Int32) (h1 : 94 ≤ k ∧ k ≤ 142) (h2 : ¬ (k = 116 ∨ k = 142)) (h3 : ¬ k = 117) : kx_set (mW M A L R) k (kI 0 (mLen k) g) = mW M (va_up A k g) L R := by
  funext n
  unfold kx_set mW va_up
  by_cases e : n = k
  · subst e
    rw [if_pos rfl, if_neg (show ¬ n = 93 by omega), if_neg h2, if_neg h3, if_pos h1, if_pos rfl]
  · rw [if_neg e, if_neg e]
theorem mW_sZ (g : Nat → Int32) : kx_set (mW M A L R) 117 (kI 2 8 g) = mW M (va_up A 117 g) L R := by
  funext n
  unfold kx_set mW va_up
  by_cases e : n = 117
  · subst e; rfl
  · simp only [if_neg e]
theorem mW_sL (k : Nat) (g : Nat → Int64) (h2 : k = 116 ∨ k = 142) : kx_set (mW M A L R) k (kL 8 g) = mW M A (va_up L k g) R := by
  funext n
  unfold kx_set mW va_up
  by_cases e : n = k
  · subst e
    rw [if_pos rfl, if_neg (show ¬ n = 93 by omega), if_pos h2, if_pos rfl]
  · rw [if_neg e, if_neg e]
theorem m_94 : mW M A L R 94 = kI 0 1700 (A 94) := rfl
theorem ms_94 (g : Nat → Int32) : kx_set (mW M A L R) 94 (kI 0 1700 g) = mW M (va_up A 94 g) L R := mW_sA 94 g (by decide) (by decide) (by decide)
theorem m_95 : mW M A L R 95 = kI 0 400 (A 95) := rfl
theorem ms_95 (g : Nat → Int32) : kx_set (mW M A L R) 95 (kI 0 400 g) = mW M (va_up A 95 g) L R := mW_sA 95 g (by decide) (by decide) (by decide)
theorem m_96 : mW M A L R 96 = kI 0 16 (A 96) := rfl
theorem ms_96 (g : Nat → Int32) : kx_set (mW M A L R) 96 (kI 0 16 g) = mW M (va_up A 96 g) L R := mW_sA 96 g (by decide) (by decide) (by decide)
theorem m_97 : mW M A L R 97 = kI 0 400 (A 97) := rfl
theorem ms_97 (g : Nat → Int32) : kx_set (mW M A L R) 97 (kI 0 400 g) = mW M (va_up A 97 g) L R := mW_sA 97 g (by decide) (by decide) (by decide)
theorem m_98 : mW M A L R 98 = kI 0 400 (A 98) := rfl
theorem ms_98 (g : Nat → Int32) : kx_set (mW M A L R) 98 (kI 0 400 g) = mW M (va_up A 98 g) L R := mW_sA 98 g (by decide) (by decide) (by decide)
theorem m_99 : mW M A L R 99 = kI 0 24 (A 99) := rfl
theorem ms_99 (g : Nat → Int32) : kx_set (mW M A L R) 99 (kI 0 24 g) = mW M (va_up A 99 g) L R := mW_sA 99 g (by decide) (by decide) (by decide)
theorem m_100 : mW M A L R 100 = kI 0 8 (A 100) := rfl
theorem ms_100 (g : Nat → Int32) : kx_set (mW M A L R) 100 (kI 0 8 g) = mW M (va_up A 100 g) L R := mW_sA 100 g (by decide) (by decide) (by decide)
theorem m_101 : mW M A L R 101 = kI 0 8 (A 101) := rfl
theorem ms_101 (g : Nat → Int32) : kx_set (mW M A L R) 101 (kI 0 8 g) = mW M (va_up A 101 g) L R := mW_sA 101 g (by decide) (by decide) (by decide)
theorem m_102 : mW M A L R 102 = kI 0 128 (A 102) := rfl
theorem ms_102 (g : Nat → Int32) : kx_set (mW M A L R) 102 (kI 0 128 g) = mW M (va_up A 102 g) L R := mW_sA 102 g (by decide) (by decide) (by decide)
theorem m_103 : mW M A L R 103 = kI 0 8 (A 103) := rfl
theorem ms_103 (g : Nat → Int32) : kx_set (mW M A L R) 103 (kI 0 8 g) = mW M (va_up A 103 g) L R := mW_sA 103 g (by decide) (by decide) (by decide)
theorem m_104 : mW M A L R 104 = kI 0 192 (A 104) := rfl
theorem ms_104 (g : Nat → Int32) : kx_set (mW M A L R) 104 (kI 0 192 g) = mW M (va_up A 104 g) L R := mW_sA 104 g (by decide) (by decide) (by decide)
theorem m_105 : mW M A L R 105 = kI 0 8 (A 105) := rfl
theorem ms_105 (g : Nat → Int32) : kx_set (mW M A L R) 105 (kI 0 8 g) = mW M (va_up A 105 g) L R := mW_sA 105 g (by decide) (by decide) (by decide)
theorem m_106 : mW M A L R 106 = kI 0 3200 (A 106) := rfl
theorem ms_106 (g : Nat → Int32) : kx_set (mW M A L R) 106 (kI 0 3200 g) = mW M (va_up A 106 g) L R := mW_sA 106 g (by decide) (by decide) (by decide)
theorem m_107 : mW M A L R 107 = kI 0 3200 (A 107) := rfl
theorem ms_107 (g : Nat → Int32) : kx_set (mW M A L R) 107 (kI 0 3200 g) = mW M (va_up A 107 g) L R := mW_sA 107 g (by decide) (by decide) (by decide)
theorem m_108 : mW M A L R 108 = kI 0 8 (A 108) := rfl
theorem ms_108 (g : Nat → Int32) : kx_set (mW M A L R) 108 (kI 0 8 g) = mW M (va_up A 108 g) L R := mW_sA 108 g (by decide) (by decide) (by decide)
theorem m_109 : mW M A L R 109 = kI 0 8 (A 109) := rfl
theorem ms_109 (g : Nat → Int32) : kx_set (mW M A L R) 109 (kI 0 8 g) = mW M (va_up A 109 g) L R := mW_sA 109 g (by decide) (by decide) (by decide)
theorem m_110 : mW M A L R 110 = kI 0 8 (A 110) := rfl
theorem ms_110 (g : Nat → Int32) : kx_set (mW M A L R) 110 (kI 0 8 g) = mW M (va_up A 110 g) L R := mW_sA 110 g (by decide) (by decide) (by decide)
theorem m_111 : mW M A L R 111 = kI 0 8 (A 111) := rfl
theorem ms_111 (g : Nat → Int32) : kx_set (mW M A L R) 111 (kI 0 8 g) = mW M (va_up A 111 g) L R := mW_sA 111 g (by decide) (by decide) (by decide)
theorem m_112 : mW M A L R 112 = kI 0 8 (A 112) := rfl
theorem ms_112 (g : Nat → Int32) : kx_set (mW M A L R) 112 (kI 0 8 g) = mW M (va_up A 112 g) L R := mW_sA 112 g (by decide) (by decide) (by decide)
theorem m_113 : mW M A L R 113 = kI 0 8 (A 113) := rfl
theorem ms_113 (g : Nat → Int32) : kx_set (mW M A L R) 113 (kI 0 8 g) = mW M (va_up A 113 g) L R := mW_sA 113 g (by decide) (by decide) (by decide)
theorem m_114 : mW M A L R 114 = kI 0 8 (A 114) := rfl
theorem ms_114 (g : Nat → Int32) : kx_set (mW M A L R) 114 (kI 0 8 g) = mW M (va_up A 114 g) L R := mW_sA 114 g (by decide) (by decide) (by decide)
theorem m_115 : mW M A L R 115 = kI 0 8 (A 115) := rfl
theorem ms_115 (g : Nat → Int32) : kx_set (mW M A L R) 115 (kI 0 8 g) = mW M (va_up A 115 g) L R := mW_sA 115 g (by decide) (by decide) (by decide)
theorem m_116 : mW M A L R 116 = kL 8 (L 116) := rfl
theorem ms_116 (g : Nat → Int64) : kx_set (mW M A L R) 116 (kL 8 g) = mW M A (va_up L 116 g) R := mW_sL 116 g (by decide)
theorem m_117 : mW M A L R 117 = kI 2 8 (A 117) := rfl
theorem ms_117 (g : Nat → Int32) : kx_set (mW M A L R) 117 (kI 2 8 g) = mW M (va_up A 117 g) L R := mW_sZ g
theorem m_118 : mW M A L R 118 = kI 0 200 (A 118) := rfl
theorem ms_118 (g : Nat → Int32) : kx_set (mW M A L R) 118 (kI 0 200 g) = mW M (va_up A 118 g) L R := mW_sA 118 g (by decide) (by decide) (by decide)
theorem m_119 : mW M A L R 119 = kI 0 200 (A 119) := rfl
theorem ms_119 (g : Nat → Int32) : kx_set (mW M A L R) 119 (kI 0 200 g) = mW M (va_up A 119 g) L R := mW_sA 119 g (by decide) (by decide) (by decide)
theorem m_120 : mW M A L R 120 = kI 0 200 (A 120) := rfl
theorem ms_120 (g : Nat → Int32) : kx_set (mW M A L R) 120 (kI 0 200 g) = mW M (va_up A 120 g) L R := mW_sA 120 g (by decide) (by decide) (by decide)
theorem m_121 : mW M A L R 121 = kI 0 200 (A 121) := rfl
theorem ms_121 (g : Nat → Int32) : kx_set (mW M A L R) 121 (kI 0 200 g) = mW M (va_up A 121 g) L R := mW_sA 121 g (by decide) (by decide) (by decide)
theorem m_122 : mW M A L R 122 = kI 0 13600 (A 122) := rfl
theorem ms_122 (g : Nat → Int32) : kx_set (mW M A L R) 122 (kI 0 13600 g) = mW M (va_up A 122 g) L R := mW_sA 122 g (by decide) (by decide) (by decide)
theorem m_123 : mW M A L R 123 = kI 0 64 (A 123) := rfl
theorem ms_123 (g : Nat → Int32) : kx_set (mW M A L R) 123 (kI 0 64 g) = mW M (va_up A 123 g) L R := mW_sA 123 g (by decide) (by decide) (by decide)
theorem m_124 : mW M A L R 124 = kI 0 120 (A 124) := rfl
theorem ms_124 (g : Nat → Int32) : kx_set (mW M A L R) 124 (kI 0 120 g) = mW M (va_up A 124 g) L R := mW_sA 124 g (by decide) (by decide) (by decide)
theorem m_125 : mW M A L R 125 = kI 0 120 (A 125) := rfl
theorem ms_125 (g : Nat → Int32) : kx_set (mW M A L R) 125 (kI 0 120 g) = mW M (va_up A 125 g) L R := mW_sA 125 g (by decide) (by decide) (by decide)
theorem m_126 : mW M A L R 126 = kI 0 6 (A 126) := rfl
theorem ms_126 (g : Nat → Int32) : kx_set (mW M A L R) 126 (kI 0 6 g) = mW M (va_up A 126 g) L R := mW_sA 126 g (by decide) (by decide) (by decide)
theorem m_127 : mW M A L R 127 = kI 0 6 (A 127) := rfl
theorem ms_127 (g : Nat → Int32) : kx_set (mW M A L R) 127 (kI 0 6 g) = mW M (va_up A 127 g) L R := mW_sA 127 g (by decide) (by decide) (by decide)
theorem m_128 : mW M A L R 128 = kI 0 4 (A 128) := rfl
theorem ms_128 (g : Nat → Int32) : kx_set (mW M A L R) 128 (kI 0 4 g) = mW M (va_up A 128 g) L R := mW_sA 128 g (by decide) (by decide) (by decide)
theorem m_129 : mW M A L R 129 = kI 0 161051 (A 129) := rfl
theorem ms_129 (g : Nat → Int32) : kx_set (mW M A L R) 129 (kI 0 161051 g) = mW M (va_up A 129 g) L R := mW_sA 129 g (by decide) (by decide) (by decide)
theorem m_130 : mW M A L R 130 = kI 0 100 (A 130) := rfl
theorem ms_130 (g : Nat → Int32) : kx_set (mW M A L R) 130 (kI 0 100 g) = mW M (va_up A 130 g) L R := mW_sA 130 g (by decide) (by decide) (by decide)
theorem m_131 : mW M A L R 131 = kI 0 100 (A 131) := rfl
theorem ms_131 (g : Nat → Int32) : kx_set (mW M A L R) 131 (kI 0 100 g) = mW M (va_up A 131 g) L R := mW_sA 131 g (by decide) (by decide) (by decide)
theorem m_132 : mW M A L R 132 = kI 0 100 (A 132) := rfl
theorem ms_132 (g : Nat → Int32) : kx_set (mW M A L R) 132 (kI 0 100 g) = mW M (va_up A 132 g) L R := mW_sA 132 g (by decide) (by decide) (by decide)
theorem m_133 : mW M A L R 133 = kI 0 100 (A 133) := rfl
theorem ms_133 (g : Nat → Int32) : kx_set (mW M A L R) 133 (kI 0 100 g) = mW M (va_up A 133 g) L R := mW_sA 133 g (by decide) (by decide) (by decide)
theorem m_134 : mW M A L R 134 = kI 0 40 (A 134) := rfl
theorem ms_134 (g : Nat → Int32) : kx_set (mW M A L R) 134 (kI 0 40 g) = mW M (va_up A 134 g) L R := mW_sA 134 g (by decide) (by decide) (by decide)
theorem m_135 : mW M A L R 135 = kI 0 40 (A 135) := rfl
theorem ms_135 (g : Nat → Int32) : kx_set (mW M A L R) 135 (kI 0 40 g) = mW M (va_up A 135 g) L R := mW_sA 135 g (by decide) (by decide) (by decide)
theorem m_136 : mW M A L R 136 = kI 0 40 (A 136) := rfl
theorem ms_136 (g : Nat → Int32) : kx_set (mW M A L R) 136 (kI 0 40 g) = mW M (va_up A 136 g) L R := mW_sA 136 g (by decide) (by decide) (by decide)
theorem m_137 : mW M A L R 137 = kI 0 8 (A 137) := rfl
theorem ms_137 (g : Nat → Int32) : kx_set (mW M A L R) 137 (kI 0 8 g) = mW M (va_up A 137 g) L R := mW_sA 137 g (by decide) (by decide) (by decide)
theorem m_138 : mW M A L R 138 = kI 0 8 (A 138) := rfl
theorem ms_138 (g : Nat → Int32) : kx_set (mW M A L R) 138 (kI 0 8 g) = mW M (va_up A 138 g) L R := mW_sA 138 g (by decide) (by decide) (by decide)
theorem m_139 : mW M A L R 139 = kI 0 8 (A 139) := rfl
theorem ms_139 (g : Nat → Int32) : kx_set (mW M A L R) 139 (kI 0 8 g) = mW M (va_up A 139 g) L R := mW_sA 139 g (by decide) (by decide) (by decide)
theorem m_140 : mW M A L R 140 = kI 0 8 (A 140) := rfl
theorem ms_140 (g : Nat → Int32) : kx_set (mW M A L R) 140 (kI 0 8 g) = mW M (va_up A 140 g) L R := mW_sA 140 g (by decide) (by decide) (by decide)
theorem m_141 : mW M A L R 141 = kI 0 8 (A 141) := rfl
theorem ms_141 (g : Nat → Int32) : kx_set (mW M A L R) 141 (kI 0 8 g) = mW M (va_up A 141 g) L R := mW_sA 141 g (by decide) (by decide) (by decide)
theorem m_142 : mW M A L R 142 = kL 8 (L 142) := rfl
theorem ms_142 (g : Nat → Int64) : kx_set (mW M A L R) 142 (kL 8 g) = mW M A (va_up L 142 g) R := mW_sL 142 g (by decide)
theorem mf_0 : kf mR M 0 = .int (M 0) := rfl
theorem mu_0 (x : Int32) : va_up (kf mR M) 0 (.int x) = kf mR (upd M 0 x) := kf_up 0 x rfl
theorem mf_1 : kf mR M 1 = .int (M 1) := rfl
theorem mu_1 (x : Int32) : va_up (kf mR M) 1 (.int x) = kf mR (upd M 1 x) := kf_up 1 x rfl
theorem mf_2 : kf mR M 2 = .int (M 2) := rfl
theorem mu_2 (x : Int32) : va_up (kf mR M) 2 (.int x) = kf mR (upd M 2 x) := kf_up 2 x rfl
theorem mf_3 : kf mR M 3 = .int (M 3) := rfl
theorem mu_3 (x : Int32) : va_up (kf mR M) 3 (.int x) = kf mR (upd M 3 x) := kf_up 3 x rfl
theorem mf_4 : kf mR M 4 = .ref 94 := rfl
theorem mf_5 : kf mR M 5 = .int (M 5) := rfl
theorem mu_5 (x : Int32) : va_up (kf mR M) 5 (.int x) = kf mR (upd M 5 x) := kf_up 5 x rfl
theorem mf_6 : kf mR M 6 = .int (M 6) := rfl
theorem mu_6 (x : Int32) : va_up (kf mR M) 6 (.int x) = kf mR (upd M 6 x) := kf_up 6 x rfl
theorem mf_7 : kf mR M 7 = .int (M 7) := rfl
theorem mu_7 (x : Int32) : va_up (kf mR M) 7 (.int x) = kf mR (upd M 7 x) := kf_up 7 x rfl
theorem mf_8 : kf mR M 8 = .int (M 8) := rfl
theorem mu_8 (x : Int32) : va_up (kf mR M) 8 (.int x) = kf mR (upd M 8 x) := kf_up 8 x rfl
theorem mf_9 : kf mR M 9 = .int (M 9) := rfl
theorem mu_9 (x : Int32) : va_up (kf mR M) 9 (.int x) = kf mR (upd M 9 x) := kf_up 9 x rfl
theorem mf_10 : kf mR M 10 = .int (M 10) := rfl
theorem mu_10 (x : Int32) : va_up (kf mR M) 10 (.int x) = kf mR (upd M 10 x) := kf_up 10 x rfl
theorem mf_11 : kf mR M 11 = .int (M 11) := rfl
theorem mu_11 (x : Int32) : va_up (kf mR M) 11 (.int x) = kf mR (upd M 11 x) := kf_up 11 x rfl
theorem mf_12 : kf mR M 12 = .int (M 12) := rfl
theorem mu_12 (x : Int32) : va_up (kf mR M) 12 (.int x) = kf mR (upd M 12 x) := kf_up 12 x rfl
theorem mf_13 : kf mR M 13 = .int (M 13) := rfl
theorem mu_13 (x : Int32) : va_up (kf mR M) 13 (.int x) = kf mR (upd M 13 x) := kf_up 13 x rfl
theorem mf_14 : kf mR M 14 = .int (M 14) := rfl
theorem mu_14 (x : Int32) : va_up (kf mR M) 14 (.int x) = kf mR (upd M 14 x) := kf_up 14 x rfl
theorem mf_15 : kf mR M 15 = .int (M 15) := rfl
theorem mu_15 (x : Int32) : va_up (kf mR M) 15 (.int x) = kf mR (upd M 15 x) := kf_up 15 x rfl
theorem mf_16 : kf mR M 16 = .ref 95 := rfl
theorem mf_17 : kf mR M 17 = .ref 96 := rfl
theorem mf_18 : kf mR M 18 = .ref 97 := rfl
theorem mf_19 : kf mR M 19 = .ref 98 := rfl
theorem mf_20 : kf mR M 20 = .ref 99 := rfl
theorem mf_21 : kf mR M 21 = .int (M 21) := rfl
theorem mu_21 (x : Int32) : va_up (kf mR M) 21 (.int x) = kf mR (upd M 21 x) := kf_up 21 x rfl
theorem mf_22 : kf mR M 22 = .int (M 22) := rfl
theorem mu_22 (x : Int32) : va_up (kf mR M) 22 (.int x) = kf mR (upd M 22 x) := kf_up 22 x rfl
theorem mf_23 : kf mR M 23 = .ref 100 := rfl
theorem mf_24 : kf mR M 24 = .ref 101 := rfl
theorem mf_25 : kf mR M 25 = .ref 102 := rfl
theorem mf_26 : kf mR M 26 = .ref 103 := rfl
theorem mf_27 : kf mR M 27 = .ref 104 := rfl
theorem mf_28 : kf mR M 28 = .ref 105 := rfl
theorem mf_29 : kf mR M 29 = .ref 106 := rfl
theorem mf_30 : kf mR M 30 = .ref 107 := rfl
theorem mf_31 : kf mR M 31 = .ref 108 := rfl
theorem mf_32 : kf mR M 32 = .ref 109 := rfl
theorem mf_33 : kf mR M 33 = .ref 110 := rfl
theorem mf_34 : kf mR M 34 = .ref 111 := rfl
theorem mf_35 : kf mR M 35 = .ref 112 := rfl
theorem mf_36 : kf mR M 36 = .ref 113 := rfl
theorem mf_37 : kf mR M 37 = .ref 114 := rfl
theorem mf_38 : kf mR M 38 = .ref 115 := rfl
theorem mf_39 : kf mR M 39 = .ref 116 := rfl
theorem mf_40 : kf mR M 40 = .ref 117 := rfl
theorem mf_41 : kf mR M 41 = .ref 118 := rfl
theorem mf_42 : kf mR M 42 = .ref 119 := rfl
theorem mf_43 : kf mR M 43 = .ref 120 := rfl
theorem mf_44 : kf mR M 44 = .ref 121 := rfl
theorem mf_45 : kf mR M 45 = .ref 122 := rfl
theorem mf_46 : kf mR M 46 = .ref 123 := rfl
theorem mf_47 : kf mR M 47 = .int (M 47) := rfl
theorem mu_47 (x : Int32) : va_up (kf mR M) 47 (.int x) = kf mR (upd M 47 x) := kf_up 47 x rfl
theorem mf_48 : kf mR M 48 = .int (M 48) := rfl
theorem mu_48 (x : Int32) : va_up (kf mR M) 48 (.int x) = kf mR (upd M 48 x) := kf_up 48 x rfl
theorem mf_49 : kf mR M 49 = .int (M 49) := rfl
theorem mu_49 (x : Int32) : va_up (kf mR M) 49 (.int x) = kf mR (upd M 49 x) := kf_up 49 x rfl
theorem mf_50 : kf mR M 50 = .int (M 50) := rfl
theorem mu_50 (x : Int32) : va_up (kf mR M) 50 (.int x) = kf mR (upd M 50 x) := kf_up 50 x rfl
theorem mf_51 : kf mR M 51 = .int (M 51) := rfl
theorem mu_51 (x : Int32) : va_up (kf mR M) 51 (.int x) = kf mR (upd M 51 x) := kf_up 51 x rfl
theorem mf_52 : kf mR M 52 = .int (M 52) := rfl
theorem mu_52 (x : Int32) : va_up (kf mR M) 52 (.int x) = kf mR (upd M 52 x) := kf_up 52 x rfl
theorem mf_53 : kf mR M 53 = .int (M 53) := rfl
theorem mu_53 (x : Int32) : va_up (kf mR M) 53 (.int x) = kf mR (upd M 53 x) := kf_up 53 x rfl
theorem mf_54 : kf mR M 54 = .int (M 54) := rfl
theorem mu_54 (x : Int32) : va_up (kf mR M) 54 (.int x) = kf mR (upd M 54 x) := kf_up 54 x rfl
theorem mf_55 : kf mR M 55 = .int (M 55) := rfl
theorem mu_55 (x : Int32) : va_up (kf mR M) 55 (.int x) = kf mR (upd M 55 x) := kf_up 55 x rfl
theorem mf_56 : kf mR M 56 = .ref 124 := rfl
theorem mf_57 : kf mR M 57 = .ref 125 := rfl
theorem mf_58 : kf mR M 58 = .int (M 58) := rfl
theorem mu_58 (x : Int32) : va_up (kf mR M) 58 (.int x) = kf mR (upd M 58 x) := kf_up 58 x rfl
theorem mf_59 : kf mR M 59 = .int (M 59) := rfl
theorem mu_59 (x : Int32) : va_up (kf mR M) 59 (.int x) = kf mR (upd M 59 x) := kf_up 59 x rfl
theorem mf_60 : kf mR M 60 = .int (M 60) := rfl
theorem mu_60 (x : Int32) : va_up (kf mR M) 60 (.int x) = kf mR (upd M 60 x) := kf_up 60 x rfl
theorem mf_61 : kf mR M 61 = .int (M 61) := rfl
theorem mu_61 (x : Int32) : va_up (kf mR M) 61 (.int x) = kf mR (upd M 61 x) := kf_up 61 x rfl
theorem mf_62 : kf mR M 62 = .int (M 62) := rfl
theorem mu_62 (x : Int32) : va_up (kf mR M) 62 (.int x) = kf mR (upd M 62 x) := kf_up 62 x rfl
theorem mf_63 : kf mR M 63 = .int (M 63) := rfl
theorem mu_63 (x : Int32) : va_up (kf mR M) 63 (.int x) = kf mR (upd M 63 x) := kf_up 63 x rfl
theorem mf_64 : kf mR M 64 = .ref 126 := rfl
theorem mf_65 : kf mR M 65 = .ref 127 := rfl
theorem mf_66 : kf mR M 66 = .int (M 66) := rfl
theorem mu_66 (x : Int32) : va_up (kf mR M) 66 (.int x) = kf mR (upd M 66 x) := kf_up 66 x rfl
theorem mf_67 : kf mR M 67 = .int (M 67) := rfl
theorem mu_67 (x : Int32) : va_up (kf mR M) 67 (.int x) = kf mR (upd M 67 x) := kf_up 67 x rfl
theorem mf_68 : kf mR M 68 = .int (M 68) := rfl
theorem mu_68 (x : Int32) : va_up (kf mR M) 68 (.int x) = kf mR (upd M 68 x) := kf_up 68 x rfl
theorem mf_69 : kf mR M 69 = .ref 128 := rfl
theorem mf_70 : kf mR M 70 = .ref 129 := rfl
theorem mf_71 : kf mR M 71 = .int (M 71) := rfl
theorem mu_71 (x : Int32) : va_up (kf mR M) 71 (.int x) = kf mR (upd M 71 x) := kf_up 71 x rfl
theorem mf_72 : kf mR M 72 = .ref 130 := rfl
theorem mf_73 : kf mR M 73 = .ref 131 := rfl
theorem mf_74 : kf mR M 74 = .ref 132 := rfl
theorem mf_75 : kf mR M 75 = .ref 133 := rfl
theorem mf_76 : kf mR M 76 = .int (M 76) := rfl
theorem mu_76 (x : Int32) : va_up (kf mR M) 76 (.int x) = kf mR (upd M 76 x) := kf_up 76 x rfl
theorem mf_77 : kf mR M 77 = .int (M 77) := rfl
theorem mu_77 (x : Int32) : va_up (kf mR M) 77 (.int x) = kf mR (upd M 77 x) := kf_up 77 x rfl
theorem mf_78 : kf mR M 78 = .int (M 78) := rfl
theorem mu_78 (x : Int32) : va_up (kf mR M) 78 (.int x) = kf mR (upd M 78 x) := kf_up 78 x rfl
theorem mf_79 : kf mR M 79 = .int (M 79) := rfl
theorem mu_79 (x : Int32) : va_up (kf mR M) 79 (.int x) = kf mR (upd M 79 x) := kf_up 79 x rfl
theorem mf_80 : kf mR M 80 = .int (M 80) := rfl
theorem mu_80 (x : Int32) : va_up (kf mR M) 80 (.int x) = kf mR (upd M 80 x) := kf_up 80 x rfl
theorem mf_81 : kf mR M 81 = .ref 134 := rfl
theorem mf_82 : kf mR M 82 = .ref 135 := rfl
theorem mf_83 : kf mR M 83 = .ref 136 := rfl
theorem mf_84 : kf mR M 84 = .int (M 84) := rfl
theorem mu_84 (x : Int32) : va_up (kf mR M) 84 (.int x) = kf mR (upd M 84 x) := kf_up 84 x rfl
theorem mf_85 : kf mR M 85 = .ref 137 := rfl
theorem mf_86 : kf mR M 86 = .ref 138 := rfl
theorem mf_87 : kf mR M 87 = .ref 139 := rfl
theorem mf_88 : kf mR M 88 = .ref 140 := rfl
theorem mf_89 : kf mR M 89 = .ref 141 := rfl
theorem mf_90 : kf mR M 90 = .ref 142 := rfl
end MW

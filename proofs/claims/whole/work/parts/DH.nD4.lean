/-! printed by wip/whole/nD4.py: what the Statement says of the start -/
def lw_fl : List Cond := flatC (Jvm.Cond.and given_1 narrow_1)
theorem kx_in_fl {ws : List Cond} (ps : List Nat) (h : (ps.map fun i => lw_fl[i]?) = ws.map some) : ∀ w ∈ ws, w ∈ lw_fl := by
  intro w hw
  have h1 : some w ∈ ws.map some := List.mem_map.mpr ⟨w, hw, rfl⟩
  rw [← h] at h1
  obtain ⟨i, -, hi⟩ := List.mem_map.mp h1
  exact List.mem_of_getElem? hi
theorem kx_in_tb {ws : List Cond} (ps : List Nat) (h : (ps.map fun i => lw_tbl[i]?) = ws.map some) : ∀ w ∈ ws, w ∈ lw_tbl := by
  intro w hw
  have h1 : some w ∈ ws.map some := List.mem_map.mpr ⟨w, hw, rfl⟩
  rw [← h] at h1
  obtain ⟨i, -, hi⟩ := List.mem_map.mp h1
  exact List.mem_of_getElem? hi
theorem kx_at_i {L ws : List Cond} (h : ∀ w ∈ ws, w ∈ L) (i : Nat) {w : Cond} (hi : ws[i]? = some w) : w ∈ L := h w (List.mem_of_getElem? hi)

theorem kxF_0 : ∀ w ∈ [(Cond.exactly (Term.string "ClockKeeper$TextReader" (124 : Nat)) "java/lang/String"), (Cond.eq (Term.field (Term.string "ClockKeeper$TextReader" (124 : Nat)) "java/lang/String" "coder" "B") (Term.int (0 : Int32))), (Cond.arrayOf (Term.field (Term.string "ClockKeeper$TextReader" (124 : Nat)) "java/lang/String" "value" "[B") FieldType.byte), (Cond.eq (Term.length (Term.field (Term.string "ClockKeeper$TextReader" (124 : Nat)) "java/lang/String" "value" "[B")) (Term.int (3 : Int32))), (Cond.eq (Term.elem (Term.field (Term.string "ClockKeeper$TextReader" (124 : Nat)) "java/lang/String" "value" "[B") (Term.int (0 : Int32))) (Term.int (114 : Int32))), (Cond.eq (Term.elem (Term.field (Term.string "ClockKeeper$TextReader" (124 : Nat)) "java/lang/String" "value" "[B") (Term.int (1 : Int32))) (Term.int (117 : Int32))), (Cond.eq (Term.elem (Term.field (Term.string "ClockKeeper$TextReader" (124 : Nat)) "java/lang/String" "value" "[B") (Term.int (2 : Int32))) (Term.int (110 : Int32)))], w ∈ lw_fl := kx_in_fl [82, 83, 84, 85, 86, 87, 88] (by decide +kernel)
theorem kxF_1 : ∀ w ∈ [(Cond.exactly (Term.string "ClockKeeper$TextReader" (126 : Nat)) "java/lang/String"), (Cond.eq (Term.field (Term.string "ClockKeeper$TextReader" (126 : Nat)) "java/lang/String" "coder" "B") (Term.int (0 : Int32))), (Cond.arrayOf (Term.field (Term.string "ClockKeeper$TextReader" (126 : Nat)) "java/lang/String" "value" "[B") FieldType.byte), (Cond.eq (Term.length (Term.field (Term.string "ClockKeeper$TextReader" (126 : Nat)) "java/lang/String" "value" "[B")) (Term.int (4 : Int32))), (Cond.eq (Term.elem (Term.field (Term.string "ClockKeeper$TextReader" (126 : Nat)) "java/lang/String" "value" "[B") (Term.int (0 : Int32))) (Term.int (98 : Int32))), (Cond.eq (Term.elem (Term.field (Term.string "ClockKeeper$TextReader" (126 : Nat)) "java/lang/String" "value" "[B") (Term.int (1 : Int32))) (Term.int (97 : Int32))), (Cond.eq (Term.elem (Term.field (Term.string "ClockKeeper$TextReader" (126 : Nat)) "java/lang/String" "value" "[B") (Term.int (2 : Int32))) (Term.int (115 : Int32))), (Cond.eq (Term.elem (Term.field (Term.string "ClockKeeper$TextReader" (126 : Nat)) "java/lang/String" "value" "[B") (Term.int (3 : Int32))) (Term.int (101 : Int32)))], w ∈ lw_fl := kx_in_fl [89, 90, 91, 92, 93, 94, 95, 96] (by decide +kernel)
theorem kxF_2 : ∀ w ∈ [(Cond.exactly (Term.string "ClockKeeper$TextReader" (128 : Nat)) "java/lang/String"), (Cond.eq (Term.field (Term.string "ClockKeeper$TextReader" (128 : Nat)) "java/lang/String" "coder" "B") (Term.int (0 : Int32))), (Cond.arrayOf (Term.field (Term.string "ClockKeeper$TextReader" (128 : Nat)) "java/lang/String" "value" "[B") FieldType.byte), (Cond.eq (Term.length (Term.field (Term.string "ClockKeeper$TextReader" (128 : Nat)) "java/lang/String" "value" "[B")) (Term.int (4 : Int32))), (Cond.eq (Term.elem (Term.field (Term.string "ClockKeeper$TextReader" (128 : Nat)) "java/lang/String" "value" "[B") (Term.int (0 : Int32))) (Term.int (119 : Int32))), (Cond.eq (Term.elem (Term.field (Term.string "ClockKeeper$TextReader" (128 : Nat)) "java/lang/String" "value" "[B") (Term.int (1 : Int32))) (Term.int (97 : Int32))), (Cond.eq (Term.elem (Term.field (Term.string "ClockKeeper$TextReader" (128 : Nat)) "java/lang/String" "value" "[B") (Term.int (2 : Int32))) (Term.int (114 : Int32))), (Cond.eq (Term.elem (Term.field (Term.string "ClockKeeper$TextReader" (128 : Nat)) "java/lang/String" "value" "[B") (Term.int (3 : Int32))) (Term.int (109 : Int32)))], w ∈ lw_fl := kx_in_fl [98, 99, 100, 101, 102, 103, 104, 105] (by decide +kernel)
theorem kxF_3 : ∀ w ∈ [(Cond.exactly (Term.string "ClockKeeper$TextReader" (130 : Nat)) "java/lang/String"), (Cond.eq (Term.field (Term.string "ClockKeeper$TextReader" (130 : Nat)) "java/lang/String" "coder" "B") (Term.int (0 : Int32))), (Cond.arrayOf (Term.field (Term.string "ClockKeeper$TextReader" (130 : Nat)) "java/lang/String" "value" "[B") FieldType.byte), (Cond.eq (Term.length (Term.field (Term.string "ClockKeeper$TextReader" (130 : Nat)) "java/lang/String" "value" "[B")) (Term.int (4 : Int32))), (Cond.eq (Term.elem (Term.field (Term.string "ClockKeeper$TextReader" (130 : Nat)) "java/lang/String" "value" "[B") (Term.int (0 : Int32))) (Term.int (119 : Int32))), (Cond.eq (Term.elem (Term.field (Term.string "ClockKeeper$TextReader" (130 : Nat)) "java/lang/String" "value" "[B") (Term.int (1 : Int32))) (Term.int (101 : Int32))), (Cond.eq (Term.elem (Term.field (Term.string "ClockKeeper$TextReader" (130 : Nat)) "java/lang/String" "value" "[B") (Term.int (2 : Int32))) (Term.int (97 : Int32))), (Cond.eq (Term.elem (Term.field (Term.string "ClockKeeper$TextReader" (130 : Nat)) "java/lang/String" "value" "[B") (Term.int (3 : Int32))) (Term.int (114 : Int32)))], w ∈ lw_fl := kx_in_fl [108, 109, 110, 111, 112, 113, 114, 115] (by decide +kernel)
theorem kxF_4 : ∀ w ∈ [(Cond.exactly (Term.string "ClockKeeper$TextReader" (132 : Nat)) "java/lang/String"), (Cond.eq (Term.field (Term.string "ClockKeeper$TextReader" (132 : Nat)) "java/lang/String" "coder" "B") (Term.int (0 : Int32))), (Cond.arrayOf (Term.field (Term.string "ClockKeeper$TextReader" (132 : Nat)) "java/lang/String" "value" "[B") FieldType.byte), (Cond.eq (Term.length (Term.field (Term.string "ClockKeeper$TextReader" (132 : Nat)) "java/lang/String" "value" "[B")) (Term.int (4 : Int32))), (Cond.eq (Term.elem (Term.field (Term.string "ClockKeeper$TextReader" (132 : Nat)) "java/lang/String" "value" "[B") (Term.int (0 : Int32))) (Term.int (112 : Int32))), (Cond.eq (Term.elem (Term.field (Term.string "ClockKeeper$TextReader" (132 : Nat)) "java/lang/String" "value" "[B") (Term.int (1 : Int32))) (Term.int (117 : Int32))), (Cond.eq (Term.elem (Term.field (Term.string "ClockKeeper$TextReader" (132 : Nat)) "java/lang/String" "value" "[B") (Term.int (2 : Int32))) (Term.int (108 : Int32))), (Cond.eq (Term.elem (Term.field (Term.string "ClockKeeper$TextReader" (132 : Nat)) "java/lang/String" "value" "[B") (Term.int (3 : Int32))) (Term.int (108 : Int32)))], w ∈ lw_fl := kx_in_fl [119, 120, 121, 122, 123, 124, 125, 126] (by decide +kernel)
theorem kxF_5 : ∀ w ∈ [(Cond.exactly (Term.string "ClockKeeper$TextReader" (134 : Nat)) "java/lang/String"), (Cond.eq (Term.field (Term.string "ClockKeeper$TextReader" (134 : Nat)) "java/lang/String" "coder" "B") (Term.int (0 : Int32))), (Cond.arrayOf (Term.field (Term.string "ClockKeeper$TextReader" (134 : Nat)) "java/lang/String" "value" "[B") FieldType.byte), (Cond.eq (Term.length (Term.field (Term.string "ClockKeeper$TextReader" (134 : Nat)) "java/lang/String" "value" "[B")) (Term.int (5 : Int32))), (Cond.eq (Term.elem (Term.field (Term.string "ClockKeeper$TextReader" (134 : Nat)) "java/lang/String" "value" "[B") (Term.int (0 : Int32))) (Term.int (112 : Int32))), (Cond.eq (Term.elem (Term.field (Term.string "ClockKeeper$TextReader" (134 : Nat)) "java/lang/String" "value" "[B") (Term.int (1 : Int32))) (Term.int (101 : Int32))), (Cond.eq (Term.elem (Term.field (Term.string "ClockKeeper$TextReader" (134 : Nat)) "java/lang/String" "value" "[B") (Term.int (2 : Int32))) (Term.int (110 : Int32))), (Cond.eq (Term.elem (Term.field (Term.string "ClockKeeper$TextReader" (134 : Nat)) "java/lang/String" "value" "[B") (Term.int (3 : Int32))) (Term.int (110 : Int32))), (Cond.eq (Term.elem (Term.field (Term.string "ClockKeeper$TextReader" (134 : Nat)) "java/lang/String" "value" "[B") (Term.int (4 : Int32))) (Term.int (121 : Int32)))], w ∈ lw_fl := kx_in_fl [131, 132, 133, 134, 135, 136, 137, 138, 139] (by decide +kernel)
theorem kxF_6 : ∀ w ∈ [(Cond.exactly (Term.string "ClockKeeper$TextReader" (136 : Nat)) "java/lang/String"), (Cond.eq (Term.field (Term.string "ClockKeeper$TextReader" (136 : Nat)) "java/lang/String" "coder" "B") (Term.int (0 : Int32))), (Cond.arrayOf (Term.field (Term.string "ClockKeeper$TextReader" (136 : Nat)) "java/lang/String" "value" "[B") FieldType.byte), (Cond.eq (Term.length (Term.field (Term.string "ClockKeeper$TextReader" (136 : Nat)) "java/lang/String" "value" "[B")) (Term.int (7 : Int32))), (Cond.eq (Term.elem (Term.field (Term.string "ClockKeeper$TextReader" (136 : Nat)) "java/lang/String" "value" "[B") (Term.int (0 : Int32))) (Term.int (115 : Int32))), (Cond.eq (Term.elem (Term.field (Term.string "ClockKeeper$TextReader" (136 : Nat)) "java/lang/String" "value" "[B") (Term.int (1 : Int32))) (Term.int (116 : Int32))), (Cond.eq (Term.elem (Term.field (Term.string "ClockKeeper$TextReader" (136 : Nat)) "java/lang/String" "value" "[B") (Term.int (2 : Int32))) (Term.int (114 : Int32))), (Cond.eq (Term.elem (Term.field (Term.string "ClockKeeper$TextReader" (136 : Nat)) "java/lang/String" "value" "[B") (Term.int (3 : Int32))) (Term.int (111 : Int32))), (Cond.eq (Term.elem (Term.field (Term.string "ClockKeeper$TextReader" (136 : Nat)) "java/lang/String" "value" "[B") (Term.int (4 : Int32))) (Term.int (107 : Int32))), (Cond.eq (Term.elem (Term.field (Term.string "ClockKeeper$TextReader" (136 : Nat)) "java/lang/String" "value" "[B") (Term.int (5 : Int32))) (Term.int (101 : Int32))), (Cond.eq (Term.elem (Term.field (Term.string "ClockKeeper$TextReader" (136 : Nat)) "java/lang/String" "value" "[B") (Term.int (6 : Int32))) (Term.int (115 : Int32)))], w ∈ lw_fl := kx_in_fl [145, 146, 147, 148, 149, 150, 151, 152, 153, 154, 155] (by decide +kernel)
theorem kxF_7 : ∀ w ∈ [(Cond.exactly (Term.string "ClockKeeper$TextReader" (138 : Nat)) "java/lang/String"), (Cond.eq (Term.field (Term.string "ClockKeeper$TextReader" (138 : Nat)) "java/lang/String" "coder" "B") (Term.int (0 : Int32))), (Cond.arrayOf (Term.field (Term.string "ClockKeeper$TextReader" (138 : Nat)) "java/lang/String" "value" "[B") FieldType.byte), (Cond.eq (Term.length (Term.field (Term.string "ClockKeeper$TextReader" (138 : Nat)) "java/lang/String" "value" "[B")) (Term.int (5 : Int32))), (Cond.eq (Term.elem (Term.field (Term.string "ClockKeeper$TextReader" (138 : Nat)) "java/lang/String" "value" "[B") (Term.int (0 : Int32))) (Term.int (114 : Int32))), (Cond.eq (Term.elem (Term.field (Term.string "ClockKeeper$TextReader" (138 : Nat)) "java/lang/String" "value" "[B") (Term.int (1 : Int32))) (Term.int (101 : Int32))), (Cond.eq (Term.elem (Term.field (Term.string "ClockKeeper$TextReader" (138 : Nat)) "java/lang/String" "value" "[B") (Term.int (2 : Int32))) (Term.int (97 : Int32))), (Cond.eq (Term.elem (Term.field (Term.string "ClockKeeper$TextReader" (138 : Nat)) "java/lang/String" "value" "[B") (Term.int (3 : Int32))) (Term.int (99 : Int32))), (Cond.eq (Term.elem (Term.field (Term.string "ClockKeeper$TextReader" (138 : Nat)) "java/lang/String" "value" "[B") (Term.int (4 : Int32))) (Term.int (104 : Int32)))], w ∈ lw_fl := kx_in_fl [162, 163, 164, 165, 166, 167, 168, 169, 170] (by decide +kernel)
theorem kxF_8 : ∀ w ∈ [(Cond.exactly (Term.string "ClockKeeper$TextReader" (94 : Nat)) "java/lang/String"), (Cond.eq (Term.field (Term.string "ClockKeeper$TextReader" (94 : Nat)) "java/lang/String" "coder" "B") (Term.int (0 : Int32))), (Cond.arrayOf (Term.field (Term.string "ClockKeeper$TextReader" (94 : Nat)) "java/lang/String" "value" "[B") FieldType.byte), (Cond.eq (Term.length (Term.field (Term.string "ClockKeeper$TextReader" (94 : Nat)) "java/lang/String" "value" "[B")) (Term.int (6 : Int32))), (Cond.eq (Term.elem (Term.field (Term.string "ClockKeeper$TextReader" (94 : Nat)) "java/lang/String" "value" "[B") (Term.int (0 : Int32))) (Term.int (115 : Int32))), (Cond.eq (Term.elem (Term.field (Term.string "ClockKeeper$TextReader" (94 : Nat)) "java/lang/String" "value" "[B") (Term.int (1 : Int32))) (Term.int (116 : Int32))), (Cond.eq (Term.elem (Term.field (Term.string "ClockKeeper$TextReader" (94 : Nat)) "java/lang/String" "value" "[B") (Term.int (2 : Int32))) (Term.int (114 : Int32))), (Cond.eq (Term.elem (Term.field (Term.string "ClockKeeper$TextReader" (94 : Nat)) "java/lang/String" "value" "[B") (Term.int (3 : Int32))) (Term.int (105 : Int32))), (Cond.eq (Term.elem (Term.field (Term.string "ClockKeeper$TextReader" (94 : Nat)) "java/lang/String" "value" "[B") (Term.int (4 : Int32))) (Term.int (107 : Int32))), (Cond.eq (Term.elem (Term.field (Term.string "ClockKeeper$TextReader" (94 : Nat)) "java/lang/String" "value" "[B") (Term.int (5 : Int32))) (Term.int (101 : Int32)))], w ∈ lw_fl := kx_in_fl [178, 179, 180, 181, 182, 183, 184, 185, 186, 187] (by decide +kernel)
theorem kxF_9 : ∀ w ∈ [(Cond.exactly (Term.string "ClockKeeper$TextReader" (100 : Nat)) "java/lang/String"), (Cond.eq (Term.field (Term.string "ClockKeeper$TextReader" (100 : Nat)) "java/lang/String" "coder" "B") (Term.int (0 : Int32))), (Cond.arrayOf (Term.field (Term.string "ClockKeeper$TextReader" (100 : Nat)) "java/lang/String" "value" "[B") FieldType.byte), (Cond.eq (Term.length (Term.field (Term.string "ClockKeeper$TextReader" (100 : Nat)) "java/lang/String" "value" "[B")) (Term.int (8 : Int32))), (Cond.eq (Term.elem (Term.field (Term.string "ClockKeeper$TextReader" (100 : Nat)) "java/lang/String" "value" "[B") (Term.int (0 : Int32))) (Term.int (113 : Int32))), (Cond.eq (Term.elem (Term.field (Term.string "ClockKeeper$TextReader" (100 : Nat)) "java/lang/String" "value" "[B") (Term.int (1 : Int32))) (Term.int (117 : Int32))), (Cond.eq (Term.elem (Term.field (Term.string "ClockKeeper$TextReader" (100 : Nat)) "java/lang/String" "value" "[B") (Term.int (2 : Int32))) (Term.int (97 : Int32))), (Cond.eq (Term.elem (Term.field (Term.string "ClockKeeper$TextReader" (100 : Nat)) "java/lang/String" "value" "[B") (Term.int (3 : Int32))) (Term.int (114 : Int32))), (Cond.eq (Term.elem (Term.field (Term.string "ClockKeeper$TextReader" (100 : Nat)) "java/lang/String" "value" "[B") (Term.int (4 : Int32))) (Term.int (116 : Int32))), (Cond.eq (Term.elem (Term.field (Term.string "ClockKeeper$TextReader" (100 : Nat)) "java/lang/String" "value" "[B") (Term.int (5 : Int32))) (Term.int (101 : Int32))), (Cond.eq (Term.elem (Term.field (Term.string "ClockKeeper$TextReader" (100 : Nat)) "java/lang/String" "value" "[B") (Term.int (6 : Int32))) (Term.int (114 : Int32))), (Cond.eq (Term.elem (Term.field (Term.string "ClockKeeper$TextReader" (100 : Nat)) "java/lang/String" "value" "[B") (Term.int (7 : Int32))) (Term.int (115 : Int32)))], w ∈ lw_fl := kx_in_fl [196, 197, 198, 199, 200, 201, 202, 203, 204, 205, 206, 207] (by decide +kernel)
theorem kxF_10 : ∀ w ∈ [(Cond.exactly (Term.string "ClockKeeper$TextReader" (102 : Nat)) "java/lang/String"), (Cond.eq (Term.field (Term.string "ClockKeeper$TextReader" (102 : Nat)) "java/lang/String" "coder" "B") (Term.int (0 : Int32))), (Cond.arrayOf (Term.field (Term.string "ClockKeeper$TextReader" (102 : Nat)) "java/lang/String" "value" "[B") FieldType.byte), (Cond.eq (Term.length (Term.field (Term.string "ClockKeeper$TextReader" (102 : Nat)) "java/lang/String" "value" "[B")) (Term.int (6 : Int32))), (Cond.eq (Term.elem (Term.field (Term.string "ClockKeeper$TextReader" (102 : Nat)) "java/lang/String" "value" "[B") (Term.int (0 : Int32))) (Term.int (115 : Int32))), (Cond.eq (Term.elem (Term.field (Term.string "ClockKeeper$TextReader" (102 : Nat)) "java/lang/String" "value" "[B") (Term.int (1 : Int32))) (Term.int (105 : Int32))), (Cond.eq (Term.elem (Term.field (Term.string "ClockKeeper$TextReader" (102 : Nat)) "java/lang/String" "value" "[B") (Term.int (2 : Int32))) (Term.int (108 : Int32))), (Cond.eq (Term.elem (Term.field (Term.string "ClockKeeper$TextReader" (102 : Nat)) "java/lang/String" "value" "[B") (Term.int (3 : Int32))) (Term.int (101 : Int32))), (Cond.eq (Term.elem (Term.field (Term.string "ClockKeeper$TextReader" (102 : Nat)) "java/lang/String" "value" "[B") (Term.int (4 : Int32))) (Term.int (110 : Int32))), (Cond.eq (Term.elem (Term.field (Term.string "ClockKeeper$TextReader" (102 : Nat)) "java/lang/String" "value" "[B") (Term.int (5 : Int32))) (Term.int (116 : Int32)))], w ∈ lw_fl := kx_in_fl [217, 218, 219, 220, 221, 222, 223, 224, 225, 226] (by decide +kernel)
theorem kxF_11 : ∀ w ∈ [(Cond.exactly (Term.string "ClockKeeper$TextReader" (104 : Nat)) "java/lang/String"), (Cond.eq (Term.field (Term.string "ClockKeeper$TextReader" (104 : Nat)) "java/lang/String" "coder" "B") (Term.int (0 : Int32))), (Cond.arrayOf (Term.field (Term.string "ClockKeeper$TextReader" (104 : Nat)) "java/lang/String" "value" "[B") FieldType.byte), (Cond.eq (Term.length (Term.field (Term.string "ClockKeeper$TextReader" (104 : Nat)) "java/lang/String" "value" "[B")) (Term.int (8 : Int32))), (Cond.eq (Term.elem (Term.field (Term.string "ClockKeeper$TextReader" (104 : Nat)) "java/lang/String" "value" "[B") (Term.int (0 : Int32))) (Term.int (99 : Int32))), (Cond.eq (Term.elem (Term.field (Term.string "ClockKeeper$TextReader" (104 : Nat)) "java/lang/String" "value" "[B") (Term.int (1 : Int32))) (Term.int (97 : Int32))), (Cond.eq (Term.elem (Term.field (Term.string "ClockKeeper$TextReader" (104 : Nat)) "java/lang/String" "value" "[B") (Term.int (2 : Int32))) (Term.int (108 : Int32))), (Cond.eq (Term.elem (Term.field (Term.string "ClockKeeper$TextReader" (104 : Nat)) "java/lang/String" "value" "[B") (Term.int (3 : Int32))) (Term.int (101 : Int32))), (Cond.eq (Term.elem (Term.field (Term.string "ClockKeeper$TextReader" (104 : Nat)) "java/lang/String" "value" "[B") (Term.int (4 : Int32))) (Term.int (110 : Int32))), (Cond.eq (Term.elem (Term.field (Term.string "ClockKeeper$TextReader" (104 : Nat)) "java/lang/String" "value" "[B") (Term.int (5 : Int32))) (Term.int (100 : Int32))), (Cond.eq (Term.elem (Term.field (Term.string "ClockKeeper$TextReader" (104 : Nat)) "java/lang/String" "value" "[B") (Term.int (6 : Int32))) (Term.int (97 : Int32))), (Cond.eq (Term.elem (Term.field (Term.string "ClockKeeper$TextReader" (104 : Nat)) "java/lang/String" "value" "[B") (Term.int (7 : Int32))) (Term.int (114 : Int32)))], w ∈ lw_fl := kx_in_fl [237, 238, 239, 240, 241, 242, 243, 244, 245, 246, 247, 248] (by decide +kernel)
theorem kxF_12 : ∀ w ∈ [(Cond.exactly (Term.string "ClockKeeper$TextReader" (159 : Nat)) "java/lang/String"), (Cond.eq (Term.field (Term.string "ClockKeeper$TextReader" (159 : Nat)) "java/lang/String" "coder" "B") (Term.int (0 : Int32))), (Cond.arrayOf (Term.field (Term.string "ClockKeeper$TextReader" (159 : Nat)) "java/lang/String" "value" "[B") FieldType.byte), (Cond.eq (Term.length (Term.field (Term.string "ClockKeeper$TextReader" (159 : Nat)) "java/lang/String" "value" "[B")) (Term.int (4 : Int32))), (Cond.eq (Term.elem (Term.field (Term.string "ClockKeeper$TextReader" (159 : Nat)) "java/lang/String" "value" "[B") (Term.int (0 : Int32))) (Term.int (114 : Int32))), (Cond.eq (Term.elem (Term.field (Term.string "ClockKeeper$TextReader" (159 : Nat)) "java/lang/String" "value" "[B") (Term.int (1 : Int32))) (Term.int (97 : Int32))), (Cond.eq (Term.elem (Term.field (Term.string "ClockKeeper$TextReader" (159 : Nat)) "java/lang/String" "value" "[B") (Term.int (2 : Int32))) (Term.int (99 : Int32))), (Cond.eq (Term.elem (Term.field (Term.string "ClockKeeper$TextReader" (159 : Nat)) "java/lang/String" "value" "[B") (Term.int (3 : Int32))) (Term.int (107 : Int32)))], w ∈ lw_fl := kx_in_fl [260, 261, 262, 263, 264, 265, 266, 267] (by decide +kernel)
theorem kxF_13 : ∀ w ∈ [(Cond.exactly (Term.string "ClockKeeper$TextReader" (221 : Nat)) "java/lang/String"), (Cond.eq (Term.field (Term.string "ClockKeeper$TextReader" (221 : Nat)) "java/lang/String" "coder" "B") (Term.int (0 : Int32))), (Cond.arrayOf (Term.field (Term.string "ClockKeeper$TextReader" (221 : Nat)) "java/lang/String" "value" "[B") FieldType.byte), (Cond.eq (Term.length (Term.field (Term.string "ClockKeeper$TextReader" (221 : Nat)) "java/lang/String" "value" "[B")) (Term.int (4 : Int32))), (Cond.eq (Term.elem (Term.field (Term.string "ClockKeeper$TextReader" (221 : Nat)) "java/lang/String" "value" "[B") (Term.int (0 : Int32))) (Term.int (104 : Int32))), (Cond.eq (Term.elem (Term.field (Term.string "ClockKeeper$TextReader" (221 : Nat)) "java/lang/String" "value" "[B") (Term.int (1 : Int32))) (Term.int (111 : Int32))), (Cond.eq (Term.elem (Term.field (Term.string "ClockKeeper$TextReader" (221 : Nat)) "java/lang/String" "value" "[B") (Term.int (2 : Int32))) (Term.int (117 : Int32))), (Cond.eq (Term.elem (Term.field (Term.string "ClockKeeper$TextReader" (221 : Nat)) "java/lang/String" "value" "[B") (Term.int (3 : Int32))) (Term.int (114 : Int32)))], w ∈ lw_fl := kx_in_fl [280, 281, 282, 283, 284, 285, 286, 287] (by decide +kernel)
theorem kxF_14 : ∀ w ∈ [(Cond.exactly (Term.string "ClockKeeper$TextReader" (223 : Nat)) "java/lang/String"), (Cond.eq (Term.field (Term.string "ClockKeeper$TextReader" (223 : Nat)) "java/lang/String" "coder" "B") (Term.int (0 : Int32))), (Cond.arrayOf (Term.field (Term.string "ClockKeeper$TextReader" (223 : Nat)) "java/lang/String" "value" "[B") FieldType.byte), (Cond.eq (Term.length (Term.field (Term.string "ClockKeeper$TextReader" (223 : Nat)) "java/lang/String" "value" "[B")) (Term.int (4 : Int32))), (Cond.eq (Term.elem (Term.field (Term.string "ClockKeeper$TextReader" (223 : Nat)) "java/lang/String" "value" "[B") (Term.int (0 : Int32))) (Term.int (100 : Int32))), (Cond.eq (Term.elem (Term.field (Term.string "ClockKeeper$TextReader" (223 : Nat)) "java/lang/String" "value" "[B") (Term.int (1 : Int32))) (Term.int (97 : Int32))), (Cond.eq (Term.elem (Term.field (Term.string "ClockKeeper$TextReader" (223 : Nat)) "java/lang/String" "value" "[B") (Term.int (2 : Int32))) (Term.int (116 : Int32))), (Cond.eq (Term.elem (Term.field (Term.string "ClockKeeper$TextReader" (223 : Nat)) "java/lang/String" "value" "[B") (Term.int (3 : Int32))) (Term.int (101 : Int32)))], w ∈ lw_fl := kx_in_fl [301, 302, 303, 304, 305, 306, 307, 308] (by decide +kernel)
theorem kxF_15 : ∀ w ∈ [(Cond.exactly (Term.string "ClockKeeper$TextReader" (225 : Nat)) "java/lang/String"), (Cond.eq (Term.field (Term.string "ClockKeeper$TextReader" (225 : Nat)) "java/lang/String" "coder" "B") (Term.int (0 : Int32))), (Cond.arrayOf (Term.field (Term.string "ClockKeeper$TextReader" (225 : Nat)) "java/lang/String" "value" "[B") FieldType.byte), (Cond.eq (Term.length (Term.field (Term.string "ClockKeeper$TextReader" (225 : Nat)) "java/lang/String" "value" "[B")) (Term.int (5 : Int32))), (Cond.eq (Term.elem (Term.field (Term.string "ClockKeeper$TextReader" (225 : Nat)) "java/lang/String" "value" "[B") (Term.int (0 : Int32))) (Term.int (109 : Int32))), (Cond.eq (Term.elem (Term.field (Term.string "ClockKeeper$TextReader" (225 : Nat)) "java/lang/String" "value" "[B") (Term.int (1 : Int32))) (Term.int (111 : Int32))), (Cond.eq (Term.elem (Term.field (Term.string "ClockKeeper$TextReader" (225 : Nat)) "java/lang/String" "value" "[B") (Term.int (2 : Int32))) (Term.int (110 : Int32))), (Cond.eq (Term.elem (Term.field (Term.string "ClockKeeper$TextReader" (225 : Nat)) "java/lang/String" "value" "[B") (Term.int (3 : Int32))) (Term.int (116 : Int32))), (Cond.eq (Term.elem (Term.field (Term.string "ClockKeeper$TextReader" (225 : Nat)) "java/lang/String" "value" "[B") (Term.int (4 : Int32))) (Term.int (104 : Int32)))], w ∈ lw_fl := kx_in_fl [323, 324, 325, 326, 327, 328, 329, 330, 331] (by decide +kernel)
theorem kxF_16 : ∀ w ∈ [(Cond.exactly (Term.string "ClockKeeper$TextReader" (227 : Nat)) "java/lang/String"), (Cond.eq (Term.field (Term.string "ClockKeeper$TextReader" (227 : Nat)) "java/lang/String" "coder" "B") (Term.int (0 : Int32))), (Cond.arrayOf (Term.field (Term.string "ClockKeeper$TextReader" (227 : Nat)) "java/lang/String" "value" "[B") FieldType.byte), (Cond.eq (Term.length (Term.field (Term.string "ClockKeeper$TextReader" (227 : Nat)) "java/lang/String" "value" "[B")) (Term.int (2 : Int32))), (Cond.eq (Term.elem (Term.field (Term.string "ClockKeeper$TextReader" (227 : Nat)) "java/lang/String" "value" "[B") (Term.int (0 : Int32))) (Term.int (105 : Int32))), (Cond.eq (Term.elem (Term.field (Term.string "ClockKeeper$TextReader" (227 : Nat)) "java/lang/String" "value" "[B") (Term.int (1 : Int32))) (Term.int (102 : Int32)))], w ∈ lw_fl := kx_in_fl [347, 348, 349, 350, 351, 352] (by decide +kernel)
theorem kxF_17 : ∀ w ∈ [(Cond.exactly (Term.string "ClockKeeper$TextReader" (167 : Nat)) "java/lang/String"), (Cond.eq (Term.field (Term.string "ClockKeeper$TextReader" (167 : Nat)) "java/lang/String" "coder" "B") (Term.int (0 : Int32))), (Cond.arrayOf (Term.field (Term.string "ClockKeeper$TextReader" (167 : Nat)) "java/lang/String" "value" "[B") FieldType.byte), (Cond.eq (Term.length (Term.field (Term.string "ClockKeeper$TextReader" (167 : Nat)) "java/lang/String" "value" "[B")) (Term.int (5 : Int32))), (Cond.eq (Term.elem (Term.field (Term.string "ClockKeeper$TextReader" (167 : Nat)) "java/lang/String" "value" "[B") (Term.int (0 : Int32))) (Term.int (119 : Int32))), (Cond.eq (Term.elem (Term.field (Term.string "ClockKeeper$TextReader" (167 : Nat)) "java/lang/String" "value" "[B") (Term.int (1 : Int32))) (Term.int (104 : Int32))), (Cond.eq (Term.elem (Term.field (Term.string "ClockKeeper$TextReader" (167 : Nat)) "java/lang/String" "value" "[B") (Term.int (2 : Int32))) (Term.int (101 : Int32))), (Cond.eq (Term.elem (Term.field (Term.string "ClockKeeper$TextReader" (167 : Nat)) "java/lang/String" "value" "[B") (Term.int (3 : Int32))) (Term.int (101 : Int32))), (Cond.eq (Term.elem (Term.field (Term.string "ClockKeeper$TextReader" (167 : Nat)) "java/lang/String" "value" "[B") (Term.int (4 : Int32))) (Term.int (108 : Int32)))], w ∈ lw_fl := kx_in_fl [369, 370, 371, 372, 373, 374, 375, 376, 377] (by decide +kernel)
theorem kxF_18 : ∀ w ∈ [(Cond.exactly (Term.string "ClockKeeper$TextReader" (186 : Nat)) "java/lang/String"), (Cond.eq (Term.field (Term.string "ClockKeeper$TextReader" (186 : Nat)) "java/lang/String" "coder" "B") (Term.int (0 : Int32))), (Cond.arrayOf (Term.field (Term.string "ClockKeeper$TextReader" (186 : Nat)) "java/lang/String" "value" "[B") FieldType.byte), (Cond.eq (Term.length (Term.field (Term.string "ClockKeeper$TextReader" (186 : Nat)) "java/lang/String" "value" "[B")) (Term.int (7 : Int32))), (Cond.eq (Term.elem (Term.field (Term.string "ClockKeeper$TextReader" (186 : Nat)) "java/lang/String" "value" "[B") (Term.int (0 : Int32))) (Term.int (115 : Int32))), (Cond.eq (Term.elem (Term.field (Term.string "ClockKeeper$TextReader" (186 : Nat)) "java/lang/String" "value" "[B") (Term.int (1 : Int32))) (Term.int (116 : Int32))), (Cond.eq (Term.elem (Term.field (Term.string "ClockKeeper$TextReader" (186 : Nat)) "java/lang/String" "value" "[B") (Term.int (2 : Int32))) (Term.int (111 : Int32))), (Cond.eq (Term.elem (Term.field (Term.string "ClockKeeper$TextReader" (186 : Nat)) "java/lang/String" "value" "[B") (Term.int (3 : Int32))) (Term.int (112 : Int32))), (Cond.eq (Term.elem (Term.field (Term.string "ClockKeeper$TextReader" (186 : Nat)) "java/lang/String" "value" "[B") (Term.int (4 : Int32))) (Term.int (112 : Int32))), (Cond.eq (Term.elem (Term.field (Term.string "ClockKeeper$TextReader" (186 : Nat)) "java/lang/String" "value" "[B") (Term.int (5 : Int32))) (Term.int (101 : Int32))), (Cond.eq (Term.elem (Term.field (Term.string "ClockKeeper$TextReader" (186 : Nat)) "java/lang/String" "value" "[B") (Term.int (6 : Int32))) (Term.int (100 : Int32)))], w ∈ lw_fl := kx_in_fl [395, 396, 397, 398, 399, 400, 401, 402, 403, 404, 405] (by decide +kernel)
theorem kxF_19 : ∀ w ∈ [(Cond.exactly (Term.string "ClockKeeper$TextReader" (191 : Nat)) "java/lang/String"), (Cond.eq (Term.field (Term.string "ClockKeeper$TextReader" (191 : Nat)) "java/lang/String" "coder" "B") (Term.int (0 : Int32))), (Cond.arrayOf (Term.field (Term.string "ClockKeeper$TextReader" (191 : Nat)) "java/lang/String" "value" "[B") FieldType.byte), (Cond.eq (Term.length (Term.field (Term.string "ClockKeeper$TextReader" (191 : Nat)) "java/lang/String" "value" "[B")) (Term.int (4 : Int32))), (Cond.eq (Term.elem (Term.field (Term.string "ClockKeeper$TextReader" (191 : Nat)) "java/lang/String" "value" "[B") (Term.int (0 : Int32))) (Term.int (104 : Int32))), (Cond.eq (Term.elem (Term.field (Term.string "ClockKeeper$TextReader" (191 : Nat)) "java/lang/String" "value" "[B") (Term.int (1 : Int32))) (Term.int (101 : Int32))), (Cond.eq (Term.elem (Term.field (Term.string "ClockKeeper$TextReader" (191 : Nat)) "java/lang/String" "value" "[B") (Term.int (2 : Int32))) (Term.int (108 : Int32))), (Cond.eq (Term.elem (Term.field (Term.string "ClockKeeper$TextReader" (191 : Nat)) "java/lang/String" "value" "[B") (Term.int (3 : Int32))) (Term.int (100 : Int32)))], w ∈ lw_fl := kx_in_fl [424, 425, 426, 427, 428, 429, 430, 431] (by decide +kernel)
theorem kxF_20 : ∀ w ∈ [(Cond.exactly (Term.string "ClockKeeper$TextReader" (193 : Nat)) "java/lang/String"), (Cond.eq (Term.field (Term.string "ClockKeeper$TextReader" (193 : Nat)) "java/lang/String" "coder" "B") (Term.int (0 : Int32))), (Cond.arrayOf (Term.field (Term.string "ClockKeeper$TextReader" (193 : Nat)) "java/lang/String" "value" "[B") FieldType.byte), (Cond.eq (Term.length (Term.field (Term.string "ClockKeeper$TextReader" (193 : Nat)) "java/lang/String" "value" "[B")) (Term.int (5 : Int32))), (Cond.eq (Term.elem (Term.field (Term.string "ClockKeeper$TextReader" (193 : Nat)) "java/lang/String" "value" "[B") (Term.int (0 : Int32))) (Term.int (112 : Int32))), (Cond.eq (Term.elem (Term.field (Term.string "ClockKeeper$TextReader" (193 : Nat)) "java/lang/String" "value" "[B") (Term.int (1 : Int32))) (Term.int (108 : Int32))), (Cond.eq (Term.elem (Term.field (Term.string "ClockKeeper$TextReader" (193 : Nat)) "java/lang/String" "value" "[B") (Term.int (2 : Int32))) (Term.int (97 : Int32))), (Cond.eq (Term.elem (Term.field (Term.string "ClockKeeper$TextReader" (193 : Nat)) "java/lang/String" "value" "[B") (Term.int (3 : Int32))) (Term.int (105 : Int32))), (Cond.eq (Term.elem (Term.field (Term.string "ClockKeeper$TextReader" (193 : Nat)) "java/lang/String" "value" "[B") (Term.int (4 : Int32))) (Term.int (110 : Int32)))], w ∈ lw_fl := kx_in_fl [451, 452, 453, 454, 455, 456, 457, 458, 459] (by decide +kernel)
theorem kxF_21 : ∀ w ∈ [(Cond.exactly (Term.string "ClockKeeper$TextReader" (197 : Nat)) "java/lang/String"), (Cond.eq (Term.field (Term.string "ClockKeeper$TextReader" (197 : Nat)) "java/lang/String" "coder" "B") (Term.int (0 : Int32))), (Cond.arrayOf (Term.field (Term.string "ClockKeeper$TextReader" (197 : Nat)) "java/lang/String" "value" "[B") FieldType.byte), (Cond.eq (Term.length (Term.field (Term.string "ClockKeeper$TextReader" (197 : Nat)) "java/lang/String" "value" "[B")) (Term.int (6 : Int32))), (Cond.eq (Term.elem (Term.field (Term.string "ClockKeeper$TextReader" (197 : Nat)) "java/lang/String" "value" "[B") (Term.int (0 : Int32))) (Term.int (109 : Int32))), (Cond.eq (Term.elem (Term.field (Term.string "ClockKeeper$TextReader" (197 : Nat)) "java/lang/String" "value" "[B") (Term.int (1 : Int32))) (Term.int (111 : Int32))), (Cond.eq (Term.elem (Term.field (Term.string "ClockKeeper$TextReader" (197 : Nat)) "java/lang/String" "value" "[B") (Term.int (2 : Int32))) (Term.int (110 : Int32))), (Cond.eq (Term.elem (Term.field (Term.string "ClockKeeper$TextReader" (197 : Nat)) "java/lang/String" "value" "[B") (Term.int (3 : Int32))) (Term.int (116 : Int32))), (Cond.eq (Term.elem (Term.field (Term.string "ClockKeeper$TextReader" (197 : Nat)) "java/lang/String" "value" "[B") (Term.int (4 : Int32))) (Term.int (104 : Int32))), (Cond.eq (Term.elem (Term.field (Term.string "ClockKeeper$TextReader" (197 : Nat)) "java/lang/String" "value" "[B") (Term.int (5 : Int32))) (Term.int (115 : Int32)))], w ∈ lw_fl := kx_in_fl [480, 481, 482, 483, 484, 485, 486, 487, 488, 489] (by decide +kernel)
theorem kxF_22 : ∀ w ∈ [(Cond.exactly (Term.string "ClockKeeper$TextReader" (199 : Nat)) "java/lang/String"), (Cond.eq (Term.field (Term.string "ClockKeeper$TextReader" (199 : Nat)) "java/lang/String" "coder" "B") (Term.int (0 : Int32))), (Cond.arrayOf (Term.field (Term.string "ClockKeeper$TextReader" (199 : Nat)) "java/lang/String" "value" "[B") FieldType.byte), (Cond.eq (Term.length (Term.field (Term.string "ClockKeeper$TextReader" (199 : Nat)) "java/lang/String" "value" "[B")) (Term.int (4 : Int32))), (Cond.eq (Term.elem (Term.field (Term.string "ClockKeeper$TextReader" (199 : Nat)) "java/lang/String" "value" "[B") (Term.int (0 : Int32))) (Term.int (108 : Int32))), (Cond.eq (Term.elem (Term.field (Term.string "ClockKeeper$TextReader" (199 : Nat)) "java/lang/String" "value" "[B") (Term.int (1 : Int32))) (Term.int (101 : Int32))), (Cond.eq (Term.elem (Term.field (Term.string "ClockKeeper$TextReader" (199 : Nat)) "java/lang/String" "value" "[B") (Term.int (2 : Int32))) (Term.int (97 : Int32))), (Cond.eq (Term.elem (Term.field (Term.string "ClockKeeper$TextReader" (199 : Nat)) "java/lang/String" "value" "[B") (Term.int (3 : Int32))) (Term.int (112 : Int32)))], w ∈ lw_fl := kx_in_fl [511, 512, 513, 514, 515, 516, 517, 518] (by decide +kernel)
theorem kxF_st : ∀ w ∈ [(Cond.stringRef "ClockKeeper$TextReader" (124 : Nat) "run"), (Cond.stringRef "ClockKeeper$TextReader" (126 : Nat) "base"), (Cond.stringRef "ClockKeeper$TextReader" (128 : Nat) "warm"), (Cond.stringRef "ClockKeeper$TextReader" (130 : Nat) "wear"), (Cond.stringRef "ClockKeeper$TextReader" (132 : Nat) "pull"), (Cond.stringRef "ClockKeeper$TextReader" (134 : Nat) "penny"), (Cond.stringRef "ClockKeeper$TextReader" (136 : Nat) "strokes"), (Cond.stringRef "ClockKeeper$TextReader" (138 : Nat) "reach"), (Cond.stringRef "ClockKeeper$TextReader" (94 : Nat) "strike"), (Cond.stringRef "ClockKeeper$TextReader" (100 : Nat) "quarters"), (Cond.stringRef "ClockKeeper$TextReader" (102 : Nat) "silent"), (Cond.stringRef "ClockKeeper$TextReader" (104 : Nat) "calendar"), (Cond.stringRef "ClockKeeper$TextReader" (159 : Nat) "rack"), (Cond.stringRef "ClockKeeper$TextReader" (221 : Nat) "hour"), (Cond.stringRef "ClockKeeper$TextReader" (223 : Nat) "date"), (Cond.stringRef "ClockKeeper$TextReader" (225 : Nat) "month"), (Cond.stringRef "ClockKeeper$TextReader" (227 : Nat) "if"), (Cond.stringRef "ClockKeeper$TextReader" (167 : Nat) "wheel"), (Cond.stringRef "ClockKeeper$TextReader" (186 : Nat) "stopped"), (Cond.stringRef "ClockKeeper$TextReader" (191 : Nat) "held"), (Cond.stringRef "ClockKeeper$TextReader" (193 : Nat) "plain"), (Cond.stringRef "ClockKeeper$TextReader" (197 : Nat) "months"), (Cond.stringRef "ClockKeeper$TextReader" (199 : Nat) "leap")], w ∈ lw_tbl := kx_in_tb [775, 828, 829, 830, 831, 832, 833, 834, 835, 836, 837, 838, 868, 891, 892, 893, 894, 903, 924, 925, 930, 931, 932] (by decide +kernel)
theorem kxF_md : ∀ w ∈ [(Cond.arrayOf (Term.static "ClockKeeper$Almanac" "MONTH_DAYS" "[I") FieldType.int), (Cond.eq (Term.length (Term.static "ClockKeeper$Almanac" "MONTH_DAYS" "[I")) (Term.int (12 : Int32))), (Cond.eq (Term.elem (Term.static "ClockKeeper$Almanac" "MONTH_DAYS" "[I") (Term.int (0 : Int32))) (Term.int (31 : Int32))), (Cond.eq (Term.elem (Term.static "ClockKeeper$Almanac" "MONTH_DAYS" "[I") (Term.int (1 : Int32))) (Term.int (28 : Int32))), (Cond.eq (Term.elem (Term.static "ClockKeeper$Almanac" "MONTH_DAYS" "[I") (Term.int (2 : Int32))) (Term.int (31 : Int32))), (Cond.eq (Term.elem (Term.static "ClockKeeper$Almanac" "MONTH_DAYS" "[I") (Term.int (3 : Int32))) (Term.int (30 : Int32))), (Cond.eq (Term.elem (Term.static "ClockKeeper$Almanac" "MONTH_DAYS" "[I") (Term.int (4 : Int32))) (Term.int (31 : Int32))), (Cond.eq (Term.elem (Term.static "ClockKeeper$Almanac" "MONTH_DAYS" "[I") (Term.int (5 : Int32))) (Term.int (30 : Int32))), (Cond.eq (Term.elem (Term.static "ClockKeeper$Almanac" "MONTH_DAYS" "[I") (Term.int (6 : Int32))) (Term.int (31 : Int32))), (Cond.eq (Term.elem (Term.static "ClockKeeper$Almanac" "MONTH_DAYS" "[I") (Term.int (7 : Int32))) (Term.int (31 : Int32))), (Cond.eq (Term.elem (Term.static "ClockKeeper$Almanac" "MONTH_DAYS" "[I") (Term.int (8 : Int32))) (Term.int (30 : Int32))), (Cond.eq (Term.elem (Term.static "ClockKeeper$Almanac" "MONTH_DAYS" "[I") (Term.int (9 : Int32))) (Term.int (31 : Int32))), (Cond.eq (Term.elem (Term.static "ClockKeeper$Almanac" "MONTH_DAYS" "[I") (Term.int (10 : Int32))) (Term.int (30 : Int32))), (Cond.eq (Term.elem (Term.static "ClockKeeper$Almanac" "MONTH_DAYS" "[I") (Term.int (11 : Int32))) (Term.int (31 : Int32)))], w ∈ lw_fl := kx_in_fl [5, 6, 7, 8, 9, 10, 11, 12, 13, 14, 15, 16, 17, 18] (by decide +kernel)
theorem kxF_nf : ∀ w ∈ [(Cond.arrayOf (Term.static "ClockKeeper$Plan" "NOTES_FROM" "[I") FieldType.int), (Cond.eq (Term.length (Term.static "ClockKeeper$Plan" "NOTES_FROM" "[I")) (Term.int (11 : Int32))), (Cond.eq (Term.elem (Term.static "ClockKeeper$Plan" "NOTES_FROM" "[I") (Term.int (0 : Int32))) (Term.int (0 : Int32))), (Cond.eq (Term.elem (Term.static "ClockKeeper$Plan" "NOTES_FROM" "[I") (Term.int (1 : Int32))) (Term.int (0 : Int32))), (Cond.eq (Term.elem (Term.static "ClockKeeper$Plan" "NOTES_FROM" "[I") (Term.int (2 : Int32))) (Term.int (16 : Int32))), (Cond.eq (Term.elem (Term.static "ClockKeeper$Plan" "NOTES_FROM" "[I") (Term.int (3 : Int32))) (Term.int (97 : Int32))), (Cond.eq (Term.elem (Term.static "ClockKeeper$Plan" "NOTES_FROM" "[I") (Term.int (4 : Int32))) (Term.int (353 : Int32))), (Cond.eq (Term.elem (Term.static "ClockKeeper$Plan" "NOTES_FROM" "[I") (Term.int (5 : Int32))) (Term.int (978 : Int32))), (Cond.eq (Term.elem (Term.static "ClockKeeper$Plan" "NOTES_FROM" "[I") (Term.int (6 : Int32))) (Term.int (2274 : Int32))), (Cond.eq (Term.elem (Term.static "ClockKeeper$Plan" "NOTES_FROM" "[I") (Term.int (7 : Int32))) (Term.int (4675 : Int32))), (Cond.eq (Term.elem (Term.static "ClockKeeper$Plan" "NOTES_FROM" "[I") (Term.int (8 : Int32))) (Term.int (8771 : Int32))), (Cond.eq (Term.elem (Term.static "ClockKeeper$Plan" "NOTES_FROM" "[I") (Term.int (9 : Int32))) (Term.int (15332 : Int32))), (Cond.eq (Term.elem (Term.static "ClockKeeper$Plan" "NOTES_FROM" "[I") (Term.int (10 : Int32))) (Term.int (25332 : Int32)))], w ∈ lw_fl := kx_in_fl [27, 28, 29, 30, 31, 32, 33, 34, 35, 36, 37, 38, 39] (by decide +kernel)
theorem kxF_mi : ∀ w ∈ [(Cond.isRef (Term.static "java/lang/Throwable" "UNASSIGNED_STACK" "[Ljava/lang/StackTraceElement;")), (Cond.isRef (Term.static "java/lang/Throwable" "SUPPRESSED_SENTINEL" "Ljava/util/List;")), (Cond.eq (Term.static "java/lang/String" "COMPACT_STRINGS" "Z") (Term.int (1 : Int32))), (Cond.isRef (Term.static "jdk/internal/util/Preconditions" "SIOOBE_FORMATTER" "Ljava/util/function/BiFunction;")), (Cond.not (Cond.castable "java/lang/IllegalArgumentException" "java/util/NoSuchElementException")), (Cond.not (Cond.castable "java/lang/IllegalStateException" "java/util/NoSuchElementException")), (Cond.not (Cond.castable "java/lang/IllegalStateException" "java/lang/IllegalArgumentException"))], w ∈ lw_fl := kx_in_fl [19, 20, 21, 22, 78, 81, 52] (by decide +kernel)
theorem kxF_tb : ∀ w ∈ [(Cond.laysStatic "ClockKeeper$Almanac" "MONTH_DAYS" "[I"), (Cond.laysStatic "ClockKeeper$Plan" "NOTES_FROM" "[I"), (Cond.laysStatic "java/lang/Throwable" "UNASSIGNED_STACK" "[Ljava/lang/StackTraceElement;"), (Cond.laysStatic "java/lang/Throwable" "SUPPRESSED_SENTINEL" "Ljava/util/List;"), (Cond.laysStatic "java/lang/String" "COMPACT_STRINGS" "Z"), (Cond.laysStatic "jdk/internal/util/Preconditions" "SIOOBE_FORMATTER" "Ljava/util/function/BiFunction;"), (Cond.initialized "ClockKeeper$Almanac"), (Cond.initialized "ClockKeeper$Plan"), (Cond.initialized "java/lang/Throwable"), (Cond.initialized "java/lang/String"), (Cond.initialized "jdk/internal/util/Preconditions"), (Cond.arrayOver (FieldType.object "ClockKeeper$Clock")), (Cond.castable "java/lang/IllegalArgumentException" "java/lang/IllegalArgumentException"), (Cond.castable "java/lang/IllegalStateException" "java/lang/IllegalStateException"), (Cond.castable "java/util/NoSuchElementException" "java/util/NoSuchElementException"), (Cond.declares ({ cls := "java/lang/RuntimeException", name := "<init>", desc := "()V" } : Jvm.MethodName)), (Cond.declares ({ cls := "java/lang/Exception", name := "<init>", desc := "()V" } : Jvm.MethodName)), (Cond.declares ({ cls := "java/lang/Throwable", name := "<init>", desc := "()V" } : Jvm.MethodName))], w ∈ lw_tbl := kx_in_tb [525, 1410, 568, 570, 789, 805, 113, 118, 122, 130, 132, 209, 543, 964, 1112, 544, 546, 548] (by decide +kernel)
/-- a static array of ints, as the Statement has it -/
theorem st_arr {args : Array Value} {s : State} {tm : Term} {N : Nat} {f : Nat → Int32} (hN : N < 2 ^ 31) (harr : (Cond.arrayOf tm .int).before args s = true) (hlen : (Cond.eq (Term.length tm) (.int (Int32.ofNat N))).before args s = true) (hel : ∀ j : Nat, j < N → (Cond.eq (Term.elem tm (.int (Int32.ofNat j))) (.int (f j))).before args s = true) :
    ∃ (t : Nat) (cell : Cell), tm.eval args s none [] s = some (.ref t) ∧ s.heap[t]? = some cell ∧ s.isArrayOf cell .int ∧ cell.vm ≠ .unknown ∧ cell.slots.size = N ∧ ∀ j : Nat, j < N → cell.slots[j]? = some (.int (f j)) := by
  have hl := va_eqt hlen
  obtain ⟨t, ht, cell, h1, h2, h3, h4, h5, h6, -⟩ := va_Tof (f := fun j => .int (f j)) (A := fun q => s.heap.size ≤ q) hN harr hl (fun j hj => va_eqt (hel j hj)) (fun a ha => by omega)
  obtain ⟨t', cell', ht', hat, -⟩ := Term.length_spec hl
  cases ht.symm.trans ht'
  obtain ⟨hc', -, -, -⟩ := State.arrayAt?_spec hat
  cases h1.symm.trans hc'
  have hsz : cell.slots.size < 2 ^ 31 := by
    simp only [Term.eval, ht, hat, Option.bind_eq_bind, Option.bind_some] at hl
    by_cases hlt : cell.slots.size < 2147483648
    · exact hlt
    · simp [hlt] at hl
  refine ⟨t, cell, ht, h1, h2, h3, ?_, h6⟩
  have e : nI cell.slots.size = nI N := h5
  exact (nI_eq hsz hN).mp e
/-- a String constant, as the Statement has it -/
def st_P (s : State) (tm : Term) (by_ : List Int32) (args : Array Value) (q : Nat × Nat) : Prop :=
  tm.eval args s none [] s = some (.ref q.1) ∧ va_O "java/lang/String" q.1 (fun z => s.heap.size ≤ z) s s.heap ∧ va_OF "java/lang/String" "coder" "B" (.int 0) q.1 (fun z => s.heap.size ≤ z) s s.heap ∧ va_OF "java/lang/String" "value" "[B" (.ref q.2) q.1 (fun z => s.heap.size ≤ z) s s.heap ∧ va_T .byte q.2 by_.length (fun j => .int (by_.getD j 0)) (fun z => s.heap.size ≤ z) s s.heap
theorem st_str {args : Array Value} {s : State} {tm : Term} {by_ : List Int32} (hN : by_.length < 2 ^ 31) (hex : (Cond.exactly tm "java/lang/String").before args s = true) (hco : (Cond.eq (.field tm "java/lang/String" "coder" "B") (.int 0)).before args s = true) (har : (Cond.arrayOf (.field tm "java/lang/String" "value" "[B") .byte).before args s = true)
    (hle : (Cond.eq (.length (.field tm "java/lang/String" "value" "[B")) (.int (Int32.ofNat by_.length))).before args s = true) (hel : ∀ j : Nat, j < by_.length → (Cond.eq (.elem (.field tm "java/lang/String" "value" "[B") (.int (Int32.ofNat j))) (.int (by_.getD j 0))).before args s = true) : ∃ q : Nat × Nat, st_P s tm by_ args q := by
  have hA : ∀ a : Nat, a < s.heap.size → ¬ (fun z => s.heap.size ≤ z) a := fun a ha => by show ¬ s.heap.size ≤ a; omega
  obtain ⟨a, c, cA, kA, q1, q2, q3, q4, q5, q6, -⟩ := Cond.exactly_spec (args := args) (first := s) (o := none) (s := s) (idx := []) (t := tm) (cls := "java/lang/String") hex
  obtain ⟨t, ht, hT⟩ := va_Tof (f := fun j => .int (by_.getD j 0)) (A := fun z => s.heap.size ≤ z) hN har (va_eqt hle) (fun j hj => va_eqt (hel j hj)) hA
  exact ⟨(a, t), q1, ⟨cA, q3, q5, by rw [q6]; exact q2, hA a (Array.getElem?_eq_some_iff.mp q3).1⟩, vk_OFof q1 (va_eqt hco) hA, vk_OFof q1 ht hA, hT⟩

theorem st_all {args : Array Value} {s : State} (hf : ∀ w ∈ lw_fl, w.before args s = true) : ∀ i, i < 23 → ∃ q : Nat × Nat, st_P s (.string "ClockKeeper$TextReader" (kz_ix i)) (kz_by i) args q := by
  intro i hi
  match i, hi with
  | 0, _ => exact st_str (by decide) (hf _ (kx_at_i kxF_0 0 rfl)) (hf _ (kx_at_i kxF_0 1 rfl)) (hf _ (kx_at_i kxF_0 2 rfl)) (hf _ (kx_at_i kxF_0 3 rfl)) (fun j hj => by
      match j, hj with
      | 0, _ => exact hf _ (kx_at_i kxF_0 4 rfl)
      | 1, _ => exact hf _ (kx_at_i kxF_0 5 rfl)
      | 2, _ => exact hf _ (kx_at_i kxF_0 6 rfl)
      | j + 3, hj => exact absurd hj (by show ¬ j + 3 < 3; omega))
  | 1, _ => exact st_str (by decide) (hf _ (kx_at_i kxF_1 0 rfl)) (hf _ (kx_at_i kxF_1 1 rfl)) (hf _ (kx_at_i kxF_1 2 rfl)) (hf _ (kx_at_i kxF_1 3 rfl)) (fun j hj => by
      match j, hj with
      | 0, _ => exact hf _ (kx_at_i kxF_1 4 rfl)
      | 1, _ => exact hf _ (kx_at_i kxF_1 5 rfl)
      | 2, _ => exact hf _ (kx_at_i kxF_1 6 rfl)
      | 3, _ => exact hf _ (kx_at_i kxF_1 7 rfl)
      | j + 4, hj => exact absurd hj (by show ¬ j + 4 < 4; omega))
  | 2, _ => exact st_str (by decide) (hf _ (kx_at_i kxF_2 0 rfl)) (hf _ (kx_at_i kxF_2 1 rfl)) (hf _ (kx_at_i kxF_2 2 rfl)) (hf _ (kx_at_i kxF_2 3 rfl)) (fun j hj => by
      match j, hj with
      | 0, _ => exact hf _ (kx_at_i kxF_2 4 rfl)
      | 1, _ => exact hf _ (kx_at_i kxF_2 5 rfl)
      | 2, _ => exact hf _ (kx_at_i kxF_2 6 rfl)
      | 3, _ => exact hf _ (kx_at_i kxF_2 7 rfl)
      | j + 4, hj => exact absurd hj (by show ¬ j + 4 < 4; omega))
  | 3, _ => exact st_str (by decide) (hf _ (kx_at_i kxF_3 0 rfl)) (hf _ (kx_at_i kxF_3 1 rfl)) (hf _ (kx_at_i kxF_3 2 rfl)) (hf _ (kx_at_i kxF_3 3 rfl)) (fun j hj => by
      match j, hj with
      | 0, _ => exact hf _ (kx_at_i kxF_3 4 rfl)
      | 1, _ => exact hf _ (kx_at_i kxF_3 5 rfl)
      | 2, _ => exact hf _ (kx_at_i kxF_3 6 rfl)
      | 3, _ => exact hf _ (kx_at_i kxF_3 7 rfl)
      | j + 4, hj => exact absurd hj (by show ¬ j + 4 < 4; omega))
  | 4, _ => exact st_str (by decide) (hf _ (kx_at_i kxF_4 0 rfl)) (hf _ (kx_at_i kxF_4 1 rfl)) (hf _ (kx_at_i kxF_4 2 rfl)) (hf _ (kx_at_i kxF_4 3 rfl)) (fun j hj => by
      match j, hj with
      | 0, _ => exact hf _ (kx_at_i kxF_4 4 rfl)
      | 1, _ => exact hf _ (kx_at_i kxF_4 5 rfl)
      | 2, _ => exact hf _ (kx_at_i kxF_4 6 rfl)
      | 3, _ => exact hf _ (kx_at_i kxF_4 7 rfl)
      | j + 4, hj => exact absurd hj (by show ¬ j + 4 < 4; omega))
  | 5, _ => exact st_str (by decide) (hf _ (kx_at_i kxF_5 0 rfl)) (hf _ (kx_at_i kxF_5 1 rfl)) (hf _ (kx_at_i kxF_5 2 rfl)) (hf _ (kx_at_i kxF_5 3 rfl)) (fun j hj => by
      match j, hj with
      | 0, _ => exact hf _ (kx_at_i kxF_5 4 rfl)
      | 1, _ => exact hf _ (kx_at_i kxF_5 5 rfl)
      | 2, _ => exact hf _ (kx_at_i kxF_5 6 rfl)
      | 3, _ => exact hf _ (kx_at_i kxF_5 7 rfl)
      | 4, _ => exact hf _ (kx_at_i kxF_5 8 rfl)
      | j + 5, hj => exact absurd hj (by show ¬ j + 5 < 5; omega))
  | 6, _ => exact st_str (by decide) (hf _ (kx_at_i kxF_6 0 rfl)) (hf _ (kx_at_i kxF_6 1 rfl)) (hf _ (kx_at_i kxF_6 2 rfl)) (hf _ (kx_at_i kxF_6 3 rfl)) (fun j hj => by
      match j, hj with
      | 0, _ => exact hf _ (kx_at_i kxF_6 4 rfl)
      | 1, _ => exact hf _ (kx_at_i kxF_6 5 rfl)
      | 2, _ => exact hf _ (kx_at_i kxF_6 6 rfl)
      | 3, _ => exact hf _ (kx_at_i kxF_6 7 rfl)
      | 4, _ => exact hf _ (kx_at_i kxF_6 8 rfl)
      | 5, _ => exact hf _ (kx_at_i kxF_6 9 rfl)
      | 6, _ => exact hf _ (kx_at_i kxF_6 10 rfl)
      | j + 7, hj => exact absurd hj (by show ¬ j + 7 < 7; omega))
  | 7, _ => exact st_str (by decide) (hf _ (kx_at_i kxF_7 0 rfl)) (hf _ (kx_at_i kxF_7 1 rfl)) (hf _ (kx_at_i kxF_7 2 rfl)) (hf _ (kx_at_i kxF_7 3 rfl)) (fun j hj => by
      match j, hj with
      | 0, _ => exact hf _ (kx_at_i kxF_7 4 rfl)
      | 1, _ => exact hf _ (kx_at_i kxF_7 5 rfl)
      | 2, _ => exact hf _ (kx_at_i kxF_7 6 rfl)
      | 3, _ => exact hf _ (kx_at_i kxF_7 7 rfl)
      | 4, _ => exact hf _ (kx_at_i kxF_7 8 rfl)
      | j + 5, hj => exact absurd hj (by show ¬ j + 5 < 5; omega))
  | 8, _ => exact st_str (by decide) (hf _ (kx_at_i kxF_8 0 rfl)) (hf _ (kx_at_i kxF_8 1 rfl)) (hf _ (kx_at_i kxF_8 2 rfl)) (hf _ (kx_at_i kxF_8 3 rfl)) (fun j hj => by
      match j, hj with
      | 0, _ => exact hf _ (kx_at_i kxF_8 4 rfl)
      | 1, _ => exact hf _ (kx_at_i kxF_8 5 rfl)
      | 2, _ => exact hf _ (kx_at_i kxF_8 6 rfl)
      | 3, _ => exact hf _ (kx_at_i kxF_8 7 rfl)
      | 4, _ => exact hf _ (kx_at_i kxF_8 8 rfl)
      | 5, _ => exact hf _ (kx_at_i kxF_8 9 rfl)
      | j + 6, hj => exact absurd hj (by show ¬ j + 6 < 6; omega))
  | 9, _ => exact st_str (by decide) (hf _ (kx_at_i kxF_9 0 rfl)) (hf _ (kx_at_i kxF_9 1 rfl)) (hf _ (kx_at_i kxF_9 2 rfl)) (hf _ (kx_at_i kxF_9 3 rfl)) (fun j hj => by
      match j, hj with
      | 0, _ => exact hf _ (kx_at_i kxF_9 4 rfl)
      | 1, _ => exact hf _ (kx_at_i kxF_9 5 rfl)
      | 2, _ => exact hf _ (kx_at_i kxF_9 6 rfl)
      | 3, _ => exact hf _ (kx_at_i kxF_9 7 rfl)
      | 4, _ => exact hf _ (kx_at_i kxF_9 8 rfl)
      | 5, _ => exact hf _ (kx_at_i kxF_9 9 rfl)
      | 6, _ => exact hf _ (kx_at_i kxF_9 10 rfl)
      | 7, _ => exact hf _ (kx_at_i kxF_9 11 rfl)
      | j + 8, hj => exact absurd hj (by show ¬ j + 8 < 8; omega))
  | 10, _ => exact st_str (by decide) (hf _ (kx_at_i kxF_10 0 rfl)) (hf _ (kx_at_i kxF_10 1 rfl)) (hf _ (kx_at_i kxF_10 2 rfl)) (hf _ (kx_at_i kxF_10 3 rfl)) (fun j hj => by
      match j, hj with
      | 0, _ => exact hf _ (kx_at_i kxF_10 4 rfl)
      | 1, _ => exact hf _ (kx_at_i kxF_10 5 rfl)
      | 2, _ => exact hf _ (kx_at_i kxF_10 6 rfl)
      | 3, _ => exact hf _ (kx_at_i kxF_10 7 rfl)
      | 4, _ => exact hf _ (kx_at_i kxF_10 8 rfl)
      | 5, _ => exact hf _ (kx_at_i kxF_10 9 rfl)
      | j + 6, hj => exact absurd hj (by show ¬ j + 6 < 6; omega))
  | 11, _ => exact st_str (by decide) (hf _ (kx_at_i kxF_11 0 rfl)) (hf _ (kx_at_i kxF_11 1 rfl)) (hf _ (kx_at_i kxF_11 2 rfl)) (hf _ (kx_at_i kxF_11 3 rfl)) (fun j hj => by
      match j, hj with
      | 0, _ => exact hf _ (kx_at_i kxF_11 4 rfl)
      | 1, _ => exact hf _ (kx_at_i kxF_11 5 rfl)
      | 2, _ => exact hf _ (kx_at_i kxF_11 6 rfl)
      | 3, _ => exact hf _ (kx_at_i kxF_11 7 rfl)
      | 4, _ => exact hf _ (kx_at_i kxF_11 8 rfl)
      | 5, _ => exact hf _ (kx_at_i kxF_11 9 rfl)
      | 6, _ => exact hf _ (kx_at_i kxF_11 10 rfl)
      | 7, _ => exact hf _ (kx_at_i kxF_11 11 rfl)
      | j + 8, hj => exact absurd hj (by show ¬ j + 8 < 8; omega))
  | 12, _ => exact st_str (by decide) (hf _ (kx_at_i kxF_12 0 rfl)) (hf _ (kx_at_i kxF_12 1 rfl)) (hf _ (kx_at_i kxF_12 2 rfl)) (hf _ (kx_at_i kxF_12 3 rfl)) (fun j hj => by
      match j, hj with
      | 0, _ => exact hf _ (kx_at_i kxF_12 4 rfl)
      | 1, _ => exact hf _ (kx_at_i kxF_12 5 rfl)
      | 2, _ => exact hf _ (kx_at_i kxF_12 6 rfl)
      | 3, _ => exact hf _ (kx_at_i kxF_12 7 rfl)
      | j + 4, hj => exact absurd hj (by show ¬ j + 4 < 4; omega))
  | 13, _ => exact st_str (by decide) (hf _ (kx_at_i kxF_13 0 rfl)) (hf _ (kx_at_i kxF_13 1 rfl)) (hf _ (kx_at_i kxF_13 2 rfl)) (hf _ (kx_at_i kxF_13 3 rfl)) (fun j hj => by
      match j, hj with
      | 0, _ => exact hf _ (kx_at_i kxF_13 4 rfl)
      | 1, _ => exact hf _ (kx_at_i kxF_13 5 rfl)
      | 2, _ => exact hf _ (kx_at_i kxF_13 6 rfl)
      | 3, _ => exact hf _ (kx_at_i kxF_13 7 rfl)
      | j + 4, hj => exact absurd hj (by show ¬ j + 4 < 4; omega))
  | 14, _ => exact st_str (by decide) (hf _ (kx_at_i kxF_14 0 rfl)) (hf _ (kx_at_i kxF_14 1 rfl)) (hf _ (kx_at_i kxF_14 2 rfl)) (hf _ (kx_at_i kxF_14 3 rfl)) (fun j hj => by
      match j, hj with
      | 0, _ => exact hf _ (kx_at_i kxF_14 4 rfl)
      | 1, _ => exact hf _ (kx_at_i kxF_14 5 rfl)
      | 2, _ => exact hf _ (kx_at_i kxF_14 6 rfl)
      | 3, _ => exact hf _ (kx_at_i kxF_14 7 rfl)
      | j + 4, hj => exact absurd hj (by show ¬ j + 4 < 4; omega))
  | 15, _ => exact st_str (by decide) (hf _ (kx_at_i kxF_15 0 rfl)) (hf _ (kx_at_i kxF_15 1 rfl)) (hf _ (kx_at_i kxF_15 2 rfl)) (hf _ (kx_at_i kxF_15 3 rfl)) (fun j hj => by
      match j, hj with
      | 0, _ => exact hf _ (kx_at_i kxF_15 4 rfl)
      | 1, _ => exact hf _ (kx_at_i kxF_15 5 rfl)
      | 2, _ => exact hf _ (kx_at_i kxF_15 6 rfl)
      | 3, _ => exact hf _ (kx_at_i kxF_15 7 rfl)
      | 4, _ => exact hf _ (kx_at_i kxF_15 8 rfl)
      | j + 5, hj => exact absurd hj (by show ¬ j + 5 < 5; omega))
  | 16, _ => exact st_str (by decide) (hf _ (kx_at_i kxF_16 0 rfl)) (hf _ (kx_at_i kxF_16 1 rfl)) (hf _ (kx_at_i kxF_16 2 rfl)) (hf _ (kx_at_i kxF_16 3 rfl)) (fun j hj => by
      match j, hj with
      | 0, _ => exact hf _ (kx_at_i kxF_16 4 rfl)
      | 1, _ => exact hf _ (kx_at_i kxF_16 5 rfl)
      | j + 2, hj => exact absurd hj (by show ¬ j + 2 < 2; omega))
  | 17, _ => exact st_str (by decide) (hf _ (kx_at_i kxF_17 0 rfl)) (hf _ (kx_at_i kxF_17 1 rfl)) (hf _ (kx_at_i kxF_17 2 rfl)) (hf _ (kx_at_i kxF_17 3 rfl)) (fun j hj => by
      match j, hj with
      | 0, _ => exact hf _ (kx_at_i kxF_17 4 rfl)
      | 1, _ => exact hf _ (kx_at_i kxF_17 5 rfl)
      | 2, _ => exact hf _ (kx_at_i kxF_17 6 rfl)
      | 3, _ => exact hf _ (kx_at_i kxF_17 7 rfl)
      | 4, _ => exact hf _ (kx_at_i kxF_17 8 rfl)
      | j + 5, hj => exact absurd hj (by show ¬ j + 5 < 5; omega))
  | 18, _ => exact st_str (by decide) (hf _ (kx_at_i kxF_18 0 rfl)) (hf _ (kx_at_i kxF_18 1 rfl)) (hf _ (kx_at_i kxF_18 2 rfl)) (hf _ (kx_at_i kxF_18 3 rfl)) (fun j hj => by
      match j, hj with
      | 0, _ => exact hf _ (kx_at_i kxF_18 4 rfl)
      | 1, _ => exact hf _ (kx_at_i kxF_18 5 rfl)
      | 2, _ => exact hf _ (kx_at_i kxF_18 6 rfl)
      | 3, _ => exact hf _ (kx_at_i kxF_18 7 rfl)
      | 4, _ => exact hf _ (kx_at_i kxF_18 8 rfl)
      | 5, _ => exact hf _ (kx_at_i kxF_18 9 rfl)
      | 6, _ => exact hf _ (kx_at_i kxF_18 10 rfl)
      | j + 7, hj => exact absurd hj (by show ¬ j + 7 < 7; omega))
  | 19, _ => exact st_str (by decide) (hf _ (kx_at_i kxF_19 0 rfl)) (hf _ (kx_at_i kxF_19 1 rfl)) (hf _ (kx_at_i kxF_19 2 rfl)) (hf _ (kx_at_i kxF_19 3 rfl)) (fun j hj => by
      match j, hj with
      | 0, _ => exact hf _ (kx_at_i kxF_19 4 rfl)
      | 1, _ => exact hf _ (kx_at_i kxF_19 5 rfl)
      | 2, _ => exact hf _ (kx_at_i kxF_19 6 rfl)
      | 3, _ => exact hf _ (kx_at_i kxF_19 7 rfl)
      | j + 4, hj => exact absurd hj (by show ¬ j + 4 < 4; omega))
  | 20, _ => exact st_str (by decide) (hf _ (kx_at_i kxF_20 0 rfl)) (hf _ (kx_at_i kxF_20 1 rfl)) (hf _ (kx_at_i kxF_20 2 rfl)) (hf _ (kx_at_i kxF_20 3 rfl)) (fun j hj => by
      match j, hj with
      | 0, _ => exact hf _ (kx_at_i kxF_20 4 rfl)
      | 1, _ => exact hf _ (kx_at_i kxF_20 5 rfl)
      | 2, _ => exact hf _ (kx_at_i kxF_20 6 rfl)
      | 3, _ => exact hf _ (kx_at_i kxF_20 7 rfl)
      | 4, _ => exact hf _ (kx_at_i kxF_20 8 rfl)
      | j + 5, hj => exact absurd hj (by show ¬ j + 5 < 5; omega))
  | 21, _ => exact st_str (by decide) (hf _ (kx_at_i kxF_21 0 rfl)) (hf _ (kx_at_i kxF_21 1 rfl)) (hf _ (kx_at_i kxF_21 2 rfl)) (hf _ (kx_at_i kxF_21 3 rfl)) (fun j hj => by
      match j, hj with
      | 0, _ => exact hf _ (kx_at_i kxF_21 4 rfl)
      | 1, _ => exact hf _ (kx_at_i kxF_21 5 rfl)
      | 2, _ => exact hf _ (kx_at_i kxF_21 6 rfl)
      | 3, _ => exact hf _ (kx_at_i kxF_21 7 rfl)
      | 4, _ => exact hf _ (kx_at_i kxF_21 8 rfl)
      | 5, _ => exact hf _ (kx_at_i kxF_21 9 rfl)
      | j + 6, hj => exact absurd hj (by show ¬ j + 6 < 6; omega))
  | 22, _ => exact st_str (by decide) (hf _ (kx_at_i kxF_22 0 rfl)) (hf _ (kx_at_i kxF_22 1 rfl)) (hf _ (kx_at_i kxF_22 2 rfl)) (hf _ (kx_at_i kxF_22 3 rfl)) (fun j hj => by
      match j, hj with
      | 0, _ => exact hf _ (kx_at_i kxF_22 4 rfl)
      | 1, _ => exact hf _ (kx_at_i kxF_22 5 rfl)
      | 2, _ => exact hf _ (kx_at_i kxF_22 6 rfl)
      | 3, _ => exact hf _ (kx_at_i kxF_22 7 rfl)
      | j + 4, hj => exact absurd hj (by show ¬ j + 4 < 4; omega))
  | i + 23, hi => omega
theorem st_ref {args : Array Value} {s : State} (ht : ∀ w ∈ lw_tbl, w.before args s = true) : ∀ i, i < 23 → (Cond.stringRef "ClockKeeper$TextReader" (kz_ix i) (kz_tx i)).before args s = true := by
  intro i hi
  match i, hi with
  | 0, _ => exact ht _ (kx_at_i kxF_st 0 rfl)
  | 1, _ => exact ht _ (kx_at_i kxF_st 1 rfl)
  | 2, _ => exact ht _ (kx_at_i kxF_st 2 rfl)
  | 3, _ => exact ht _ (kx_at_i kxF_st 3 rfl)
  | 4, _ => exact ht _ (kx_at_i kxF_st 4 rfl)
  | 5, _ => exact ht _ (kx_at_i kxF_st 5 rfl)
  | 6, _ => exact ht _ (kx_at_i kxF_st 6 rfl)
  | 7, _ => exact ht _ (kx_at_i kxF_st 7 rfl)
  | 8, _ => exact ht _ (kx_at_i kxF_st 8 rfl)
  | 9, _ => exact ht _ (kx_at_i kxF_st 9 rfl)
  | 10, _ => exact ht _ (kx_at_i kxF_st 10 rfl)
  | 11, _ => exact ht _ (kx_at_i kxF_st 11 rfl)
  | 12, _ => exact ht _ (kx_at_i kxF_st 12 rfl)
  | 13, _ => exact ht _ (kx_at_i kxF_st 13 rfl)
  | 14, _ => exact ht _ (kx_at_i kxF_st 14 rfl)
  | 15, _ => exact ht _ (kx_at_i kxF_st 15 rfl)
  | 16, _ => exact ht _ (kx_at_i kxF_st 16 rfl)
  | 17, _ => exact ht _ (kx_at_i kxF_st 17 rfl)
  | 18, _ => exact ht _ (kx_at_i kxF_st 18 rfl)
  | 19, _ => exact ht _ (kx_at_i kxF_st 19 rfl)
  | 20, _ => exact ht _ (kx_at_i kxF_st 20 rfl)
  | 21, _ => exact ht _ (kx_at_i kxF_st 21 rfl)
  | 22, _ => exact ht _ (kx_at_i kxF_st 22 rfl)
  | i + 23, hi => omega
theorem st_md {args : Array Value} {s : State} (hf : ∀ w ∈ lw_fl, w.before args s = true) : ∃ (t : Nat) (cell : Cell), (Term.static "ClockKeeper$Almanac" "MONTH_DAYS" "[I").eval args s none [] s = some (.ref t) ∧ s.heap[t]? = some cell ∧ s.isArrayOf cell .int ∧ cell.vm ≠ .unknown ∧ cell.slots.size = 12 ∧ ∀ j : Nat, j < 12 → cell.slots[j]? = some (.int (cj_md j)) := by
  refine st_arr (by decide) (hf _ (kx_at_i kxF_md 0 rfl)) (hf _ (kx_at_i kxF_md 1 rfl)) (fun j hj => ?_)
  match j, hj with
  | 0, _ => exact hf _ (kx_at_i kxF_md 2 rfl)
  | 1, _ => exact hf _ (kx_at_i kxF_md 3 rfl)
  | 2, _ => exact hf _ (kx_at_i kxF_md 4 rfl)
  | 3, _ => exact hf _ (kx_at_i kxF_md 5 rfl)
  | 4, _ => exact hf _ (kx_at_i kxF_md 6 rfl)
  | 5, _ => exact hf _ (kx_at_i kxF_md 7 rfl)
  | 6, _ => exact hf _ (kx_at_i kxF_md 8 rfl)
  | 7, _ => exact hf _ (kx_at_i kxF_md 9 rfl)
  | 8, _ => exact hf _ (kx_at_i kxF_md 10 rfl)
  | 9, _ => exact hf _ (kx_at_i kxF_md 11 rfl)
  | 10, _ => exact hf _ (kx_at_i kxF_md 12 rfl)
  | 11, _ => exact hf _ (kx_at_i kxF_md 13 rfl)
  | j + 12, hj => omega
theorem st_nf {args : Array Value} {s : State} (hf : ∀ w ∈ lw_fl, w.before args s = true) : ∃ (t : Nat) (cell : Cell), (Term.static "ClockKeeper$Plan" "NOTES_FROM" "[I").eval args s none [] s = some (.ref t) ∧ s.heap[t]? = some cell ∧ s.isArrayOf cell .int ∧ cell.vm ≠ .unknown ∧ cell.slots.size = 11 ∧ ∀ j : Nat, j < 11 → cell.slots[j]? = some (.int (cj_nf j)) := by
  refine st_arr (by decide) (hf _ (kx_at_i kxF_nf 0 rfl)) (hf _ (kx_at_i kxF_nf 1 rfl)) (fun j hj => ?_)
  match j, hj with
  | 0, _ => exact hf _ (kx_at_i kxF_nf 2 rfl)
  | 1, _ => exact hf _ (kx_at_i kxF_nf 3 rfl)
  | 2, _ => exact hf _ (kx_at_i kxF_nf 4 rfl)
  | 3, _ => exact hf _ (kx_at_i kxF_nf 5 rfl)
  | 4, _ => exact hf _ (kx_at_i kxF_nf 6 rfl)
  | 5, _ => exact hf _ (kx_at_i kxF_nf 7 rfl)
  | 6, _ => exact hf _ (kx_at_i kxF_nf 8 rfl)
  | 7, _ => exact hf _ (kx_at_i kxF_nf 9 rfl)
  | 8, _ => exact hf _ (kx_at_i kxF_nf 10 rfl)
  | 9, _ => exact hf _ (kx_at_i kxF_nf 11 rfl)
  | 10, _ => exact hf _ (kx_at_i kxF_nf 12 rfl)
  | j + 11, hj => omega

def shTl : List Nat := [0, 0, 0, 12, 5, 20, 21, 47, 43, 42, 41, 48, 45, 8, 20, 8, 20, 8, 20, 8, 20, 8, 20, 8, 20, 8, 20, 8, 20, 8, 20, 8, 20, 4, 11, 20, 20, 4, 11, 20, 20, 4, 11, 20, 20, 4, 11, 20, 20, 4, 11, 20, 20, 4, 11, 20, 20, 4, 11, 20, 20, 4, 11, 20, 20, 4, 11, 20, 20, 4, 11, 20, 20, 4, 11, 20, 20, 3, 11, 20, 20, 3, 11, 20, 20, 3, 11, 20, 20, 3, 11, 20, 20, 3, 11, 20, 20, 2, 2, 2, 2, 2, 2, 2, 2, 2, 2, 2, 2, 9, 9, 9, 9, 9, 9, 6, 6, 6, 6, 6, 6, 6, 6, 46, 1, 20, 10, 20, 20, 20, 20, 7, 20, 7, 20, 7, 20, 7, 20, 13, 20, 20, 20, 21, 20, 21, 20, 21, 21, 20, 20, 20, 20, 20, 20, 20, 20, 20, 20, 20, 20, 20, 20, 20, 20, 20, 20, 20, 20, 20, 20, 20, 20, 20, 20, 20, 21, 20, 21, 20, 21, 21, 20, 20, 20, 20, 20, 20, 20, 20, 20, 21, 5, 20, 21, 47, 43, 42, 41, 48, 45, 8, 20, 8, 20, 8, 20, 8, 20, 8, 20, 8, 20, 8, 20, 8, 20, 8, 20, 8, 20, 4, 11, 20, 20, 4, 11, 20, 20, 4, 11, 20, 20, 4, 11, 20, 20, 4, 11, 20, 20, 4, 11, 20, 20, 4, 11, 20, 20, 4, 11, 20, 20, 4, 11, 20, 20, 4, 11, 20, 20, 4, 11, 20, 20, 3, 11, 20, 20, 3, 11, 20, 20, 3, 11, 20, 20, 3, 11, 20, 20, 3, 11, 20, 20, 2, 2, 2, 2, 2, 2, 2, 2, 2, 2, 2, 2, 9, 9, 9, 9, 9, 9, 6, 6, 6, 6, 6, 6, 6, 6]
def shLl : List Nat := [0, 0, 0, 0, 0, 100, 100, 10, 11, 5, 12, 6, 8, 0, 100, 0, 100, 0, 100, 0, 100, 0, 100, 0, 100, 0, 100, 0, 100, 0, 100, 0, 100, 0, 0, 10, 10, 0, 0, 10, 10, 0, 0, 10, 10, 0, 0, 10, 10, 0, 0, 10, 10, 0, 0, 10, 10, 0, 0, 10, 10, 0, 0, 10, 10, 0, 0, 10, 10, 0, 0, 10, 10, 0, 0, 10, 10, 0, 0, 10, 10, 0, 0, 10, 10, 0, 0, 10, 10, 0, 0, 10, 10, 0, 0, 10, 10, 0, 0, 0, 0, 0, 0, 0, 0, 0, 0, 0, 0, 0, 0, 0, 0, 0, 0, 0, 0, 0, 0, 0, 0, 0, 0, 4, 0, 50, 0, 10, 10, 1100, 12, 0, 40, 0, 40, 0, 40, 0, 40, 0, 10, 10, 10, 10, 1000, 1000, 100, 100, 100, 5, 5, 5, 5, 5, 5, 5, 5, 160, 160, 11, 12, 12, 12, 12, 12, 6, 6, 6, 8, 8, 8, 8, 1100, 1100, 11, 7, 10, 1000, 1000, 100, 100, 100, 25, 160, 160, 11, 24, 50, 4, 4, 160, 160, 0, 100, 100, 10, 11, 5, 12, 6, 8, 0, 100, 0, 100, 0, 100, 0, 100, 0, 100, 0, 100, 0, 100, 0, 100, 0, 100, 0, 100, 0, 0, 10, 10, 0, 0, 10, 10, 0, 0, 10, 10, 0, 0, 10, 10, 0, 0, 10, 10, 0, 0, 10, 10, 0, 0, 10, 10, 0, 0, 10, 10, 0, 0, 10, 10, 0, 0, 10, 10, 0, 0, 10, 10, 0, 0, 10, 10, 0, 0, 10, 10, 0, 0, 10, 10, 0, 0, 10, 10, 0, 0, 10, 10, 0, 0, 0, 0, 0, 0, 0, 0, 0, 0, 0, 0, 0, 0, 0, 0, 0, 0, 0, 0, 0, 0, 0, 0, 0, 0]
def shRl : List (List (Option Nat)) := [[], [], [], [some 4, none, none, none, some 123, some 124, some 126, some 130], [none, none, none, none, none, none, none, none, some 5, some 6, some 7, some 8, some 9, some 10, some 11, some 12], [], [], [some 13, some 15, some 17, some 19, some 21, some 23, some 25, some 27, some 29, some 31], [some 33, some 37, some 41, some 45, some 49, some 53, some 57, some 61, some 65, some 69, some 73], [some 77, some 81, some 85, some 89, some 93], [some 97, some 98, some 99, some 100, some 101, some 102, some 103, some 104, some 105, some 106, some 107, some 108], [some 109, some 110, some 111, some 112, some 113, some 114], [some 115, some 116, some 117, some 118, some 119, some 120, some 121, some 122], [none, none, none, none, none, some 14], [], [none, none, none, none, none, some 16], [], [none, none, none, none, none, some 18], [], [none, none, none, none, none, some 20], [], [none, none, none, none, none, some 22], [], [none, none, none, none, none, some 24], [], [none, none, none, none, none, some 26], [], [none, none, none, none, none, some 28], [], [none, none, none, none, none, some 30], [], [none, none, none, none, none, some 32], [], [none, some 34], [some 35, some 36], [], [], [none, some 38], [some 39, some 40], [], [], [none, some 42], [some 43, some 44], [], [], [none, some 46], [some 47, some 48], [], [], [none, some 50], [some 51, some 52], [], [], [none, some 54], [some 55, some 56], [], [], [none, some 58], [some 59, some 60], [], [], [none, some 62], [some 63, some 64], [], [], [none, some 66], [some 67, some 68], [], [], [none, some 70], [some 71, some 72], [], [], [none, some 74], [some 75, some 76], [], [], [none, none, none, none, none, none, none, none, none, some 78], [some 79, some 80], [], [], [none, none, none, none, none, none, none, none, none, some 82], [some 83, some 84], [], [], [none, none, none, none, none, none, none, none, none, some 86], [some 87, some 88], [], [], [none, none, none, none, none, none, none, none, none, some 90], [some 91, some 92], [], [], [none, none, none, none, none, none, none, none, none, some 94], [some 95, some 96], [], [], [], [], [], [], [], [], [], [], [], [], [], [], [], [], [], [], [], [], [], [], [], [], [], [], [], [], [some 131, some 133, some 135, some 137], [none, some 125], [], [none, none, some 127, some 128, some 129], [], [], [], [], [none, none, some 132], [], [none, none, some 134], [], [none, none, some 136], [], [none, none, some 138], [], [none, none, none, some 140, some 141, some 142, some 143, some 144, some 145, some 146, some 147, some 148, none, some 149, some 150, some 151, some 152, some 153, some 154, some 155, some 156, some 157, some 158, some 159, none, some 160, some 161, some 162, some 163, some 164, none, none, some 165, some 166, some 167, none, some 168, some 169, some 170, some 171, some 172, some 173, some 174, none, none, none, some 175, some 176, some 177, some 178, some 179, some 180, some 181, some 182, some 183, some 184, some 185, some 186, some 187, none, some 188, some 189, some 190, some 191], [], [], [], [], [], [], [], [], [], [], [], [], [], [], [], [], [], [], [], [], [], [], [], [], [], [], [], [], [], [], [], [], [], [], [], [], [], [], [], [], [], [], [], [], [], [], [], [], [], [], [], [], [none, none, none, none, none, none, none, none, some 193, some 194, some 195, some 196, some 197, some 198, some 199, some 200], [], [], [some 201, some 203, some 205, some 207, some 209, some 211, some 213, some 215, some 217, some 219], [some 221, some 225, some 229, some 233, some 237, some 241, some 245, some 249, some 253, some 257, some 261], [some 265, some 269, some 273, some 277, some 281], [some 285, some 286, some 287, some 288, some 289, some 290, some 291, some 292, some 293, some 294, some 295, some 296], [some 297, some 298, some 299, some 300, some 301, some 302], [some 303, some 304, some 305, some 306, some 307, some 308, some 309, some 310], [none, none, none, none, none, some 202], [], [none, none, none, none, none, some 204], [], [none, none, none, none, none, some 206], [], [none, none, none, none, none, some 208], [], [none, none, none, none, none, some 210], [], [none, none, none, none, none, some 212], [], [none, none, none, none, none, some 214], [], [none, none, none, none, none, some 216], [], [none, none, none, none, none, some 218], [], [none, none, none, none, none, some 220], [], [none, some 222], [some 223, some 224], [], [], [none, some 226], [some 227, some 228], [], [], [none, some 230], [some 231, some 232], [], [], [none, some 234], [some 235, some 236], [], [], [none, some 238], [some 239, some 240], [], [], [none, some 242], [some 243, some 244], [], [], [none, some 246], [some 247, some 248], [], [], [none, some 250], [some 251, some 252], [], [], [none, some 254], [some 255, some 256], [], [], [none, some 258], [some 259, some 260], [], [], [none, some 262], [some 263, some 264], [], [], [none, none, none, none, none, none, none, none, none, some 266], [some 267, some 268], [], [], [none, none, none, none, none, none, none, none, none, some 270], [some 271, some 272], [], [], [none, none, none, none, none, none, none, none, none, some 274], [some 275, some 276], [], [], [none, none, none, none, none, none, none, none, none, some 278], [some 279, some 280], [], [], [none, none, none, none, none, none, none, none, none, some 282], [some 283, some 284], [], [], [], [], [], [], [], [], [], [], [], [], [], [], [], [], [], [], [], [], [], [], [], [], [], [], [], []]
def shT (b : Bool) (k : Nat) : Nat := if k < 192 then shTl.getD k 0 else if b = true then shTl.getD k 0 else 0
def shL (b : Bool) (k : Nat) : Nat := if k < 192 then shLl.getD k 0 else if b = true then shLl.getD k 0 else 0
def shR (b : Bool) (k j : Nat) : Option Nat := if k = 3 ∧ j = 1 then (if b = true then some 192 else none) else if k < 192 then (shRl.getD k []).getD j none else if b = true then (shRl.getD k []).getD j none else none
def sh (b : Bool) : (Nat → Nat → Option Nat) × (Nat → Nat) × (Nat → Nat) × Nat := (shR b, shT b, shL b, if b = true then 311 else 192)
theorem ln_of {i a n : Nat} (e : a = n) (h : i < n ∧ n < 2147483648) : i < a ∧ a < 2147483648 := by rw [e]; exact h
theorem shT_lo {b : Bool} {k t : Nat} (hk : k < 192) (h : shTl.getD k 0 = t) : (sh b).2.1 k = t := by
  show shT b k = t
  rw [shT, if_pos hk, h]
theorem shL_lo {b : Bool} {k t : Nat} (hk : k < 192) (h : shLl.getD k 0 = t) : (sh b).2.2.1 k = t := by
  show shL b k = t
  rw [shL, if_pos hk, h]
theorem shR_lo {b : Bool} {k j : Nat} {t : Option Nat} (hk : k < 192) (h3 : ¬ (k = 3 ∧ j = 1)) (h : (shRl.getD k []).getD j none = t) : (sh b).1 k j = t := by
  show shR b k j = t
  rw [shR, if_neg h3, if_pos hk, h]
theorem tt_3 (b : Bool) : (sh b).2.1 3 = 12 := shT_lo (by decide) rfl
theorem rr_3_0 (b : Bool) : (sh b).1 3 0 = some 4 := shR_lo (by decide) (by decide) rfl
theorem rr_3_4 (b : Bool) : (sh b).1 3 4 = some 123 := shR_lo (by decide) (by decide) rfl
theorem rr_3_5 (b : Bool) : (sh b).1 3 5 = some 124 := shR_lo (by decide) (by decide) rfl
theorem rr_3_6 (b : Bool) : (sh b).1 3 6 = some 126 := shR_lo (by decide) (by decide) rfl
theorem rr_3_7 (b : Bool) : (sh b).1 3 7 = some 130 := shR_lo (by decide) (by decide) rfl
theorem tt_4 (b : Bool) : (sh b).2.1 4 = 5 := shT_lo (by decide) rfl
theorem rr_4_8 (b : Bool) : (sh b).1 4 8 = some 5 := shR_lo (by decide) (by decide) rfl
theorem rr_4_9 (b : Bool) : (sh b).1 4 9 = some 6 := shR_lo (by decide) (by decide) rfl
theorem rr_4_10 (b : Bool) : (sh b).1 4 10 = some 7 := shR_lo (by decide) (by decide) rfl
theorem rr_4_11 (b : Bool) : (sh b).1 4 11 = some 8 := shR_lo (by decide) (by decide) rfl
theorem rr_4_12 (b : Bool) : (sh b).1 4 12 = some 9 := shR_lo (by decide) (by decide) rfl
theorem rr_4_13 (b : Bool) : (sh b).1 4 13 = some 10 := shR_lo (by decide) (by decide) rfl
theorem rr_4_14 (b : Bool) : (sh b).1 4 14 = some 11 := shR_lo (by decide) (by decide) rfl
theorem rr_4_15 (b : Bool) : (sh b).1 4 15 = some 12 := shR_lo (by decide) (by decide) rfl
theorem tt_5 (b : Bool) : (sh b).2.1 5 = 20 := shT_lo (by decide) rfl
theorem ll_5 (b : Bool) : (sh b).2.2.1 5 = 100 := shL_lo (by decide) rfl
theorem tt_6 (b : Bool) : (sh b).2.1 6 = 21 := shT_lo (by decide) rfl
theorem ll_6 (b : Bool) : (sh b).2.2.1 6 = 100 := shL_lo (by decide) rfl
theorem tt_7 (b : Bool) : (sh b).2.1 7 = 47 := shT_lo (by decide) rfl
theorem ll_7 (b : Bool) : (sh b).2.2.1 7 = 10 := shL_lo (by decide) rfl
theorem tt_8 (b : Bool) : (sh b).2.1 8 = 43 := shT_lo (by decide) rfl
theorem ll_8 (b : Bool) : (sh b).2.2.1 8 = 11 := shL_lo (by decide) rfl
theorem tt_9 (b : Bool) : (sh b).2.1 9 = 42 := shT_lo (by decide) rfl
theorem ll_9 (b : Bool) : (sh b).2.2.1 9 = 5 := shL_lo (by decide) rfl
theorem tt_10 (b : Bool) : (sh b).2.1 10 = 41 := shT_lo (by decide) rfl
theorem ll_10 (b : Bool) : (sh b).2.2.1 10 = 12 := shL_lo (by decide) rfl
theorem tt_11 (b : Bool) : (sh b).2.1 11 = 48 := shT_lo (by decide) rfl
theorem ll_11 (b : Bool) : (sh b).2.2.1 11 = 6 := shL_lo (by decide) rfl
theorem tt_12 (b : Bool) : (sh b).2.1 12 = 45 := shT_lo (by decide) rfl
theorem ll_12 (b : Bool) : (sh b).2.2.1 12 = 8 := shL_lo (by decide) rfl
theorem tt_123 (b : Bool) : (sh b).2.1 123 = 46 := shT_lo (by decide) rfl
theorem ll_123 (b : Bool) : (sh b).2.2.1 123 = 4 := shL_lo (by decide) rfl
theorem tt_124 (b : Bool) : (sh b).2.1 124 = 1 := shT_lo (by decide) rfl
theorem rr_124_1 (b : Bool) : (sh b).1 124 1 = some 125 := shR_lo (by decide) (by decide) rfl
theorem tt_125 (b : Bool) : (sh b).2.1 125 = 20 := shT_lo (by decide) rfl
theorem ll_125 (b : Bool) : (sh b).2.2.1 125 = 50 := shL_lo (by decide) rfl
theorem tt_126 (b : Bool) : (sh b).2.1 126 = 10 := shT_lo (by decide) rfl
theorem rr_126_2 (b : Bool) : (sh b).1 126 2 = some 127 := shR_lo (by decide) (by decide) rfl
theorem rr_126_3 (b : Bool) : (sh b).1 126 3 = some 128 := shR_lo (by decide) (by decide) rfl
theorem rr_126_4 (b : Bool) : (sh b).1 126 4 = some 129 := shR_lo (by decide) (by decide) rfl
theorem tt_127 (b : Bool) : (sh b).2.1 127 = 20 := shT_lo (by decide) rfl
theorem ll_127 (b : Bool) : (sh b).2.2.1 127 = 10 := shL_lo (by decide) rfl
theorem tt_128 (b : Bool) : (sh b).2.1 128 = 20 := shT_lo (by decide) rfl
theorem ll_128 (b : Bool) : (sh b).2.2.1 128 = 10 := shL_lo (by decide) rfl
theorem tt_129 (b : Bool) : (sh b).2.1 129 = 20 := shT_lo (by decide) rfl
theorem ll_129 (b : Bool) : (sh b).2.2.1 129 = 1100 := shL_lo (by decide) rfl
theorem tt_130 (b : Bool) : (sh b).2.1 130 = 20 := shT_lo (by decide) rfl
theorem ll_130 (b : Bool) : (sh b).2.2.1 130 = 12 := shL_lo (by decide) rfl
theorem tt_139 (b : Bool) : (sh b).2.1 139 = 13 := shT_lo (by decide) rfl
theorem rr_139_3 (b : Bool) : (sh b).1 139 3 = some 140 := shR_lo (by decide) (by decide) rfl
theorem rr_139_4 (b : Bool) : (sh b).1 139 4 = some 141 := shR_lo (by decide) (by decide) rfl
theorem rr_139_5 (b : Bool) : (sh b).1 139 5 = some 142 := shR_lo (by decide) (by decide) rfl
theorem rr_139_6 (b : Bool) : (sh b).1 139 6 = some 143 := shR_lo (by decide) (by decide) rfl
theorem rr_139_7 (b : Bool) : (sh b).1 139 7 = some 144 := shR_lo (by decide) (by decide) rfl
theorem rr_139_8 (b : Bool) : (sh b).1 139 8 = some 145 := shR_lo (by decide) (by decide) rfl
theorem rr_139_9 (b : Bool) : (sh b).1 139 9 = some 146 := shR_lo (by decide) (by decide) rfl
theorem rr_139_10 (b : Bool) : (sh b).1 139 10 = some 147 := shR_lo (by decide) (by decide) rfl
theorem rr_139_11 (b : Bool) : (sh b).1 139 11 = some 148 := shR_lo (by decide) (by decide) rfl
theorem rr_139_13 (b : Bool) : (sh b).1 139 13 = some 149 := shR_lo (by decide) (by decide) rfl
theorem rr_139_14 (b : Bool) : (sh b).1 139 14 = some 150 := shR_lo (by decide) (by decide) rfl
theorem rr_139_15 (b : Bool) : (sh b).1 139 15 = some 151 := shR_lo (by decide) (by decide) rfl
theorem rr_139_16 (b : Bool) : (sh b).1 139 16 = some 152 := shR_lo (by decide) (by decide) rfl
theorem rr_139_17 (b : Bool) : (sh b).1 139 17 = some 153 := shR_lo (by decide) (by decide) rfl
theorem rr_139_18 (b : Bool) : (sh b).1 139 18 = some 154 := shR_lo (by decide) (by decide) rfl
theorem rr_139_19 (b : Bool) : (sh b).1 139 19 = some 155 := shR_lo (by decide) (by decide) rfl
theorem rr_139_20 (b : Bool) : (sh b).1 139 20 = some 156 := shR_lo (by decide) (by decide) rfl
theorem rr_139_21 (b : Bool) : (sh b).1 139 21 = some 157 := shR_lo (by decide) (by decide) rfl
theorem rr_139_22 (b : Bool) : (sh b).1 139 22 = some 158 := shR_lo (by decide) (by decide) rfl
theorem rr_139_23 (b : Bool) : (sh b).1 139 23 = some 159 := shR_lo (by decide) (by decide) rfl
theorem rr_139_25 (b : Bool) : (sh b).1 139 25 = some 160 := shR_lo (by decide) (by decide) rfl
theorem rr_139_26 (b : Bool) : (sh b).1 139 26 = some 161 := shR_lo (by decide) (by decide) rfl
theorem rr_139_27 (b : Bool) : (sh b).1 139 27 = some 162 := shR_lo (by decide) (by decide) rfl
theorem rr_139_28 (b : Bool) : (sh b).1 139 28 = some 163 := shR_lo (by decide) (by decide) rfl
theorem rr_139_29 (b : Bool) : (sh b).1 139 29 = some 164 := shR_lo (by decide) (by decide) rfl
theorem rr_139_32 (b : Bool) : (sh b).1 139 32 = some 165 := shR_lo (by decide) (by decide) rfl
theorem rr_139_33 (b : Bool) : (sh b).1 139 33 = some 166 := shR_lo (by decide) (by decide) rfl
theorem rr_139_34 (b : Bool) : (sh b).1 139 34 = some 167 := shR_lo (by decide) (by decide) rfl
theorem rr_139_36 (b : Bool) : (sh b).1 139 36 = some 168 := shR_lo (by decide) (by decide) rfl
theorem rr_139_37 (b : Bool) : (sh b).1 139 37 = some 169 := shR_lo (by decide) (by decide) rfl
theorem rr_139_38 (b : Bool) : (sh b).1 139 38 = some 170 := shR_lo (by decide) (by decide) rfl
theorem rr_139_39 (b : Bool) : (sh b).1 139 39 = some 171 := shR_lo (by decide) (by decide) rfl
theorem rr_139_40 (b : Bool) : (sh b).1 139 40 = some 172 := shR_lo (by decide) (by decide) rfl
theorem rr_139_41 (b : Bool) : (sh b).1 139 41 = some 173 := shR_lo (by decide) (by decide) rfl
theorem rr_139_42 (b : Bool) : (sh b).1 139 42 = some 174 := shR_lo (by decide) (by decide) rfl
theorem rr_139_46 (b : Bool) : (sh b).1 139 46 = some 175 := shR_lo (by decide) (by decide) rfl
theorem rr_139_47 (b : Bool) : (sh b).1 139 47 = some 176 := shR_lo (by decide) (by decide) rfl
theorem rr_139_48 (b : Bool) : (sh b).1 139 48 = some 177 := shR_lo (by decide) (by decide) rfl
theorem rr_139_49 (b : Bool) : (sh b).1 139 49 = some 178 := shR_lo (by decide) (by decide) rfl
theorem rr_139_50 (b : Bool) : (sh b).1 139 50 = some 179 := shR_lo (by decide) (by decide) rfl
theorem rr_139_51 (b : Bool) : (sh b).1 139 51 = some 180 := shR_lo (by decide) (by decide) rfl
theorem rr_139_52 (b : Bool) : (sh b).1 139 52 = some 181 := shR_lo (by decide) (by decide) rfl
theorem rr_139_53 (b : Bool) : (sh b).1 139 53 = some 182 := shR_lo (by decide) (by decide) rfl
theorem rr_139_54 (b : Bool) : (sh b).1 139 54 = some 183 := shR_lo (by decide) (by decide) rfl
theorem rr_139_55 (b : Bool) : (sh b).1 139 55 = some 184 := shR_lo (by decide) (by decide) rfl
theorem rr_139_56 (b : Bool) : (sh b).1 139 56 = some 185 := shR_lo (by decide) (by decide) rfl
theorem rr_139_57 (b : Bool) : (sh b).1 139 57 = some 186 := shR_lo (by decide) (by decide) rfl
theorem rr_139_58 (b : Bool) : (sh b).1 139 58 = some 187 := shR_lo (by decide) (by decide) rfl
theorem rr_139_60 (b : Bool) : (sh b).1 139 60 = some 188 := shR_lo (by decide) (by decide) rfl
theorem rr_139_61 (b : Bool) : (sh b).1 139 61 = some 189 := shR_lo (by decide) (by decide) rfl
theorem rr_139_62 (b : Bool) : (sh b).1 139 62 = some 190 := shR_lo (by decide) (by decide) rfl
theorem rr_139_63 (b : Bool) : (sh b).1 139 63 = some 191 := shR_lo (by decide) (by decide) rfl
theorem tt_140 (b : Bool) : (sh b).2.1 140 = 20 := shT_lo (by decide) rfl
theorem ll_140 (b : Bool) : (sh b).2.2.1 140 = 10 := shL_lo (by decide) rfl
theorem tt_141 (b : Bool) : (sh b).2.1 141 = 20 := shT_lo (by decide) rfl
theorem ll_141 (b : Bool) : (sh b).2.2.1 141 = 10 := shL_lo (by decide) rfl
theorem tt_142 (b : Bool) : (sh b).2.1 142 = 20 := shT_lo (by decide) rfl
theorem ll_142 (b : Bool) : (sh b).2.2.1 142 = 10 := shL_lo (by decide) rfl
theorem tt_143 (b : Bool) : (sh b).2.1 143 = 21 := shT_lo (by decide) rfl
theorem ll_143 (b : Bool) : (sh b).2.2.1 143 = 10 := shL_lo (by decide) rfl
theorem tt_144 (b : Bool) : (sh b).2.1 144 = 20 := shT_lo (by decide) rfl
theorem ll_144 (b : Bool) : (sh b).2.2.1 144 = 1000 := shL_lo (by decide) rfl
theorem tt_145 (b : Bool) : (sh b).2.1 145 = 21 := shT_lo (by decide) rfl
theorem ll_145 (b : Bool) : (sh b).2.2.1 145 = 1000 := shL_lo (by decide) rfl
theorem tt_146 (b : Bool) : (sh b).2.1 146 = 20 := shT_lo (by decide) rfl
theorem ll_146 (b : Bool) : (sh b).2.2.1 146 = 100 := shL_lo (by decide) rfl
theorem tt_147 (b : Bool) : (sh b).2.1 147 = 21 := shT_lo (by decide) rfl
theorem ll_147 (b : Bool) : (sh b).2.2.1 147 = 100 := shL_lo (by decide) rfl
theorem tt_148 (b : Bool) : (sh b).2.1 148 = 21 := shT_lo (by decide) rfl
theorem ll_148 (b : Bool) : (sh b).2.2.1 148 = 100 := shL_lo (by decide) rfl
theorem tt_149 (b : Bool) : (sh b).2.1 149 = 20 := shT_lo (by decide) rfl
theorem ll_149 (b : Bool) : (sh b).2.2.1 149 = 5 := shL_lo (by decide) rfl
theorem tt_150 (b : Bool) : (sh b).2.1 150 = 20 := shT_lo (by decide) rfl
theorem ll_150 (b : Bool) : (sh b).2.2.1 150 = 5 := shL_lo (by decide) rfl
theorem tt_151 (b : Bool) : (sh b).2.1 151 = 20 := shT_lo (by decide) rfl
theorem ll_151 (b : Bool) : (sh b).2.2.1 151 = 5 := shL_lo (by decide) rfl
theorem tt_152 (b : Bool) : (sh b).2.1 152 = 20 := shT_lo (by decide) rfl
theorem ll_152 (b : Bool) : (sh b).2.2.1 152 = 5 := shL_lo (by decide) rfl
theorem tt_153 (b : Bool) : (sh b).2.1 153 = 20 := shT_lo (by decide) rfl
theorem ll_153 (b : Bool) : (sh b).2.2.1 153 = 5 := shL_lo (by decide) rfl
theorem tt_154 (b : Bool) : (sh b).2.1 154 = 20 := shT_lo (by decide) rfl
theorem ll_154 (b : Bool) : (sh b).2.2.1 154 = 5 := shL_lo (by decide) rfl
theorem tt_155 (b : Bool) : (sh b).2.1 155 = 20 := shT_lo (by decide) rfl
theorem ll_155 (b : Bool) : (sh b).2.2.1 155 = 5 := shL_lo (by decide) rfl
theorem tt_156 (b : Bool) : (sh b).2.1 156 = 20 := shT_lo (by decide) rfl
theorem ll_156 (b : Bool) : (sh b).2.2.1 156 = 5 := shL_lo (by decide) rfl
theorem tt_157 (b : Bool) : (sh b).2.1 157 = 20 := shT_lo (by decide) rfl
theorem ll_157 (b : Bool) : (sh b).2.2.1 157 = 160 := shL_lo (by decide) rfl
theorem tt_158 (b : Bool) : (sh b).2.1 158 = 20 := shT_lo (by decide) rfl
theorem ll_158 (b : Bool) : (sh b).2.2.1 158 = 160 := shL_lo (by decide) rfl
theorem tt_159 (b : Bool) : (sh b).2.1 159 = 20 := shT_lo (by decide) rfl
theorem ll_159 (b : Bool) : (sh b).2.2.1 159 = 11 := shL_lo (by decide) rfl
theorem tt_160 (b : Bool) : (sh b).2.1 160 = 20 := shT_lo (by decide) rfl
theorem ll_160 (b : Bool) : (sh b).2.2.1 160 = 12 := shL_lo (by decide) rfl
theorem tt_161 (b : Bool) : (sh b).2.1 161 = 20 := shT_lo (by decide) rfl
theorem ll_161 (b : Bool) : (sh b).2.2.1 161 = 12 := shL_lo (by decide) rfl
theorem tt_162 (b : Bool) : (sh b).2.1 162 = 20 := shT_lo (by decide) rfl
theorem ll_162 (b : Bool) : (sh b).2.2.1 162 = 12 := shL_lo (by decide) rfl
theorem tt_163 (b : Bool) : (sh b).2.1 163 = 20 := shT_lo (by decide) rfl
theorem ll_163 (b : Bool) : (sh b).2.2.1 163 = 12 := shL_lo (by decide) rfl
theorem tt_164 (b : Bool) : (sh b).2.1 164 = 20 := shT_lo (by decide) rfl
theorem ll_164 (b : Bool) : (sh b).2.2.1 164 = 12 := shL_lo (by decide) rfl
theorem tt_165 (b : Bool) : (sh b).2.1 165 = 20 := shT_lo (by decide) rfl
theorem ll_165 (b : Bool) : (sh b).2.2.1 165 = 6 := shL_lo (by decide) rfl
theorem tt_166 (b : Bool) : (sh b).2.1 166 = 20 := shT_lo (by decide) rfl
theorem ll_166 (b : Bool) : (sh b).2.2.1 166 = 6 := shL_lo (by decide) rfl
theorem tt_167 (b : Bool) : (sh b).2.1 167 = 20 := shT_lo (by decide) rfl
theorem ll_167 (b : Bool) : (sh b).2.2.1 167 = 6 := shL_lo (by decide) rfl
theorem tt_168 (b : Bool) : (sh b).2.1 168 = 20 := shT_lo (by decide) rfl
theorem ll_168 (b : Bool) : (sh b).2.2.1 168 = 8 := shL_lo (by decide) rfl
theorem tt_169 (b : Bool) : (sh b).2.1 169 = 20 := shT_lo (by decide) rfl
theorem ll_169 (b : Bool) : (sh b).2.2.1 169 = 8 := shL_lo (by decide) rfl
theorem tt_170 (b : Bool) : (sh b).2.1 170 = 20 := shT_lo (by decide) rfl
theorem ll_170 (b : Bool) : (sh b).2.2.1 170 = 8 := shL_lo (by decide) rfl
theorem tt_171 (b : Bool) : (sh b).2.1 171 = 20 := shT_lo (by decide) rfl
theorem ll_171 (b : Bool) : (sh b).2.2.1 171 = 8 := shL_lo (by decide) rfl
theorem tt_172 (b : Bool) : (sh b).2.1 172 = 20 := shT_lo (by decide) rfl
theorem ll_172 (b : Bool) : (sh b).2.2.1 172 = 1100 := shL_lo (by decide) rfl
theorem tt_173 (b : Bool) : (sh b).2.1 173 = 20 := shT_lo (by decide) rfl
theorem ll_173 (b : Bool) : (sh b).2.2.1 173 = 1100 := shL_lo (by decide) rfl
theorem tt_174 (b : Bool) : (sh b).2.1 174 = 20 := shT_lo (by decide) rfl
theorem ll_174 (b : Bool) : (sh b).2.2.1 174 = 11 := shL_lo (by decide) rfl
theorem tt_175 (b : Bool) : (sh b).2.1 175 = 20 := shT_lo (by decide) rfl
theorem ll_175 (b : Bool) : (sh b).2.2.1 175 = 7 := shL_lo (by decide) rfl
theorem tt_176 (b : Bool) : (sh b).2.1 176 = 21 := shT_lo (by decide) rfl
theorem ll_176 (b : Bool) : (sh b).2.2.1 176 = 10 := shL_lo (by decide) rfl
theorem tt_177 (b : Bool) : (sh b).2.1 177 = 20 := shT_lo (by decide) rfl
theorem ll_177 (b : Bool) : (sh b).2.2.1 177 = 1000 := shL_lo (by decide) rfl
theorem tt_178 (b : Bool) : (sh b).2.1 178 = 21 := shT_lo (by decide) rfl
theorem ll_178 (b : Bool) : (sh b).2.2.1 178 = 1000 := shL_lo (by decide) rfl
theorem tt_179 (b : Bool) : (sh b).2.1 179 = 20 := shT_lo (by decide) rfl
theorem ll_179 (b : Bool) : (sh b).2.2.1 179 = 100 := shL_lo (by decide) rfl
theorem tt_180 (b : Bool) : (sh b).2.1 180 = 21 := shT_lo (by decide) rfl
theorem ll_180 (b : Bool) : (sh b).2.2.1 180 = 100 := shL_lo (by decide) rfl
theorem tt_181 (b : Bool) : (sh b).2.1 181 = 21 := shT_lo (by decide) rfl
theorem ll_181 (b : Bool) : (sh b).2.2.1 181 = 100 := shL_lo (by decide) rfl
theorem tt_182 (b : Bool) : (sh b).2.1 182 = 20 := shT_lo (by decide) rfl
theorem ll_182 (b : Bool) : (sh b).2.2.1 182 = 25 := shL_lo (by decide) rfl
theorem tt_183 (b : Bool) : (sh b).2.1 183 = 20 := shT_lo (by decide) rfl
theorem ll_183 (b : Bool) : (sh b).2.2.1 183 = 160 := shL_lo (by decide) rfl
theorem tt_184 (b : Bool) : (sh b).2.1 184 = 20 := shT_lo (by decide) rfl
theorem ll_184 (b : Bool) : (sh b).2.2.1 184 = 160 := shL_lo (by decide) rfl
theorem tt_185 (b : Bool) : (sh b).2.1 185 = 20 := shT_lo (by decide) rfl
theorem ll_185 (b : Bool) : (sh b).2.2.1 185 = 11 := shL_lo (by decide) rfl
theorem tt_186 (b : Bool) : (sh b).2.1 186 = 20 := shT_lo (by decide) rfl
theorem ll_186 (b : Bool) : (sh b).2.2.1 186 = 24 := shL_lo (by decide) rfl
theorem tt_187 (b : Bool) : (sh b).2.1 187 = 20 := shT_lo (by decide) rfl
theorem ll_187 (b : Bool) : (sh b).2.2.1 187 = 50 := shL_lo (by decide) rfl
theorem tt_188 (b : Bool) : (sh b).2.1 188 = 20 := shT_lo (by decide) rfl
theorem ll_188 (b : Bool) : (sh b).2.2.1 188 = 4 := shL_lo (by decide) rfl
theorem tt_189 (b : Bool) : (sh b).2.1 189 = 20 := shT_lo (by decide) rfl
theorem ll_189 (b : Bool) : (sh b).2.2.1 189 = 4 := shL_lo (by decide) rfl
theorem tt_190 (b : Bool) : (sh b).2.1 190 = 20 := shT_lo (by decide) rfl
theorem ll_190 (b : Bool) : (sh b).2.2.1 190 = 160 := shL_lo (by decide) rfl
theorem tt_191 (b : Bool) : (sh b).2.1 191 = 21 := shT_lo (by decide) rfl
theorem ll_191 (b : Bool) : (sh b).2.2.1 191 = 160 := shL_lo (by decide) rfl
theorem tS (b : Bool) {i : Nat} (h : i < 10) : (sh b).2.1 (13 + 2 * i) = 8 := shT_lo (by omega) ((by decide : ∀ i, i < 10 → shTl.getD (13 + 2 * i) 0 = 8) i h)
theorem rS5 (b : Bool) {i : Nat} (h : i < 10) : (sh b).1 (13 + 2 * i) 5 = some (14 + 2 * i) := shR_lo (by omega) (by omega) ((by decide : ∀ i, i < 10 → (shRl.getD (13 + 2 * i) []).getD 5 none = some (14 + 2 * i)) i h)
theorem tS5 (b : Bool) {i : Nat} (h : i < 10) : (sh b).2.1 (14 + 2 * i) = 20 := shT_lo (by omega) ((by decide : ∀ i, i < 10 → shTl.getD (14 + 2 * i) 0 = 20) i h)
theorem lS5 (b : Bool) {i : Nat} (h : i < 10) : (sh b).2.2.1 (14 + 2 * i) = 100 := shL_lo (by omega) ((by decide : ∀ i, i < 10 → shLl.getD (14 + 2 * i) 0 = 100) i h)
theorem rS (b : Bool) {i : Nat} (h : i < 10) : (sh b).1 7 i = some (13 + 2 * i) := shR_lo (by decide) (by omega) ((by decide : ∀ i, i < 10 → (shRl.getD 7 []).getD i none = some (13 + 2 * i)) i h)
theorem tLD (b : Bool) {i : Nat} (h : i < 11) : (sh b).2.1 (33 + 4 * i) = 4 := shT_lo (by omega) ((by decide : ∀ i, i < 11 → shTl.getD (33 + 4 * i) 0 = 4) i h)
theorem rLD1 (b : Bool) {i : Nat} (h : i < 11) : (sh b).1 (33 + 4 * i) 1 = some (34 + 4 * i) := shR_lo (by omega) (by omega) ((by decide : ∀ i, i < 11 → (shRl.getD (33 + 4 * i) []).getD 1 none = some (34 + 4 * i)) i h)
theorem tLW (b : Bool) {i : Nat} (h : i < 11) : (sh b).2.1 (34 + 4 * i) = 11 := shT_lo (by omega) ((by decide : ∀ i, i < 11 → shTl.getD (34 + 4 * i) 0 = 11) i h)
theorem rLW0 (b : Bool) {i : Nat} (h : i < 11) : (sh b).1 (34 + 4 * i) 0 = some (35 + 4 * i) := shR_lo (by omega) (by omega) ((by decide : ∀ i, i < 11 → (shRl.getD (34 + 4 * i) []).getD 0 none = some (35 + 4 * i)) i h)
theorem rLW1 (b : Bool) {i : Nat} (h : i < 11) : (sh b).1 (34 + 4 * i) 1 = some (36 + 4 * i) := shR_lo (by omega) (by omega) ((by decide : ∀ i, i < 11 → (shRl.getD (34 + 4 * i) []).getD 1 none = some (36 + 4 * i)) i h)
theorem tLW0 (b : Bool) {i : Nat} (h : i < 11) : (sh b).2.1 (35 + 4 * i) = 20 := shT_lo (by omega) ((by decide : ∀ i, i < 11 → shTl.getD (35 + 4 * i) 0 = 20) i h)
theorem tLW1 (b : Bool) {i : Nat} (h : i < 11) : (sh b).2.1 (36 + 4 * i) = 20 := shT_lo (by omega) ((by decide : ∀ i, i < 11 → shTl.getD (36 + 4 * i) 0 = 20) i h)
theorem lLW0 (b : Bool) {i : Nat} (h : i < 11) : (sh b).2.2.1 (35 + 4 * i) = 10 := shL_lo (by omega) ((by decide : ∀ i, i < 11 → shLl.getD (35 + 4 * i) 0 = 10) i h)
theorem lLW1 (b : Bool) {i : Nat} (h : i < 11) : (sh b).2.2.1 (36 + 4 * i) = 10 := shL_lo (by omega) ((by decide : ∀ i, i < 11 → shLl.getD (36 + 4 * i) 0 = 10) i h)
theorem rLD (b : Bool) {i : Nat} (h : i < 11) : (sh b).1 8 i = some (33 + 4 * i) := shR_lo (by decide) (by omega) ((by decide : ∀ i, i < 11 → (shRl.getD 8 []).getD i none = some (33 + 4 * i)) i h)
theorem tB (b : Bool) {i : Nat} (h : i < 5) : (sh b).2.1 (77 + 4 * i) = 3 := shT_lo (by omega) ((by decide : ∀ i, i < 5 → shTl.getD (77 + 4 * i) 0 = 3) i h)
theorem rB9 (b : Bool) {i : Nat} (h : i < 5) : (sh b).1 (77 + 4 * i) 9 = some (78 + 4 * i) := shR_lo (by omega) (by omega) ((by decide : ∀ i, i < 5 → (shRl.getD (77 + 4 * i) []).getD 9 none = some (78 + 4 * i)) i h)
theorem tBW (b : Bool) {i : Nat} (h : i < 5) : (sh b).2.1 (78 + 4 * i) = 11 := shT_lo (by omega) ((by decide : ∀ i, i < 5 → shTl.getD (78 + 4 * i) 0 = 11) i h)
theorem rBW0 (b : Bool) {i : Nat} (h : i < 5) : (sh b).1 (78 + 4 * i) 0 = some (79 + 4 * i) := shR_lo (by omega) (by omega) ((by decide : ∀ i, i < 5 → (shRl.getD (78 + 4 * i) []).getD 0 none = some (79 + 4 * i)) i h)
theorem rBW1 (b : Bool) {i : Nat} (h : i < 5) : (sh b).1 (78 + 4 * i) 1 = some (80 + 4 * i) := shR_lo (by omega) (by omega) ((by decide : ∀ i, i < 5 → (shRl.getD (78 + 4 * i) []).getD 1 none = some (80 + 4 * i)) i h)
theorem tBW0 (b : Bool) {i : Nat} (h : i < 5) : (sh b).2.1 (79 + 4 * i) = 20 := shT_lo (by omega) ((by decide : ∀ i, i < 5 → shTl.getD (79 + 4 * i) 0 = 20) i h)
theorem tBW1 (b : Bool) {i : Nat} (h : i < 5) : (sh b).2.1 (80 + 4 * i) = 20 := shT_lo (by omega) ((by decide : ∀ i, i < 5 → shTl.getD (80 + 4 * i) 0 = 20) i h)
theorem lBW0 (b : Bool) {i : Nat} (h : i < 5) : (sh b).2.2.1 (79 + 4 * i) = 10 := shL_lo (by omega) ((by decide : ∀ i, i < 5 → shLl.getD (79 + 4 * i) 0 = 10) i h)
theorem lBW1 (b : Bool) {i : Nat} (h : i < 5) : (sh b).2.2.1 (80 + 4 * i) = 10 := shL_lo (by omega) ((by decide : ∀ i, i < 5 → shLl.getD (80 + 4 * i) 0 = 10) i h)
theorem rB (b : Bool) {i : Nat} (h : i < 5) : (sh b).1 9 i = some (77 + 4 * i) := shR_lo (by decide) (by omega) ((by decide : ∀ i, i < 5 → (shRl.getD 9 []).getD i none = some (77 + 4 * i)) i h)
theorem tBA (b : Bool) {i : Nat} (h : i < 12) : (sh b).2.1 (97 + i) = 2 := shT_lo (by omega) ((by decide : ∀ i, i < 12 → shTl.getD (97 + i) 0 = 2) i h)
theorem rBA (b : Bool) {i : Nat} (h : i < 12) : (sh b).1 10 i = some (97 + i) := shR_lo (by decide) (by omega) ((by decide : ∀ i, i < 12 → (shRl.getD 10 []).getD i none = some (97 + i)) i h)
theorem tTR (b : Bool) {i : Nat} (h : i < 6) : (sh b).2.1 (109 + i) = 9 := shT_lo (by omega) ((by decide : ∀ i, i < 6 → shTl.getD (109 + i) 0 = 9) i h)
theorem rTR (b : Bool) {i : Nat} (h : i < 6) : (sh b).1 11 i = some (109 + i) := shR_lo (by decide) (by omega) ((by decide : ∀ i, i < 6 → (shRl.getD 11 []).getD i none = some (109 + i)) i h)
theorem tRU (b : Bool) {i : Nat} (h : i < 8) : (sh b).2.1 (115 + i) = 6 := shT_lo (by omega) ((by decide : ∀ i, i < 8 → shTl.getD (115 + i) 0 = 6) i h)
theorem rRU (b : Bool) {i : Nat} (h : i < 8) : (sh b).1 12 i = some (115 + i) := shR_lo (by decide) (by omega) ((by decide : ∀ i, i < 8 → (shRl.getD 12 []).getD i none = some (115 + i)) i h)
theorem tSHT (b : Bool) {i : Nat} (h : i < 4) : (sh b).2.1 (131 + 2 * i) = 7 := shT_lo (by omega) ((by decide : ∀ i, i < 4 → shTl.getD (131 + 2 * i) 0 = 7) i h)
theorem rSHT2 (b : Bool) {i : Nat} (h : i < 4) : (sh b).1 (131 + 2 * i) 2 = some (132 + 2 * i) := shR_lo (by omega) (by omega) ((by decide : ∀ i, i < 4 → (shRl.getD (131 + 2 * i) []).getD 2 none = some (132 + 2 * i)) i h)
theorem tNUM (b : Bool) {i : Nat} (h : i < 4) : (sh b).2.1 (132 + 2 * i) = 20 := shT_lo (by omega) ((by decide : ∀ i, i < 4 → shTl.getD (132 + 2 * i) 0 = 20) i h)
theorem lNUM (b : Bool) {i : Nat} (h : i < 4) : (sh b).2.2.1 (132 + 2 * i) = 40 := shL_lo (by omega) ((by decide : ∀ i, i < 4 → shLl.getD (132 + 2 * i) 0 = 40) i h)
theorem rSHT (b : Bool) {i : Nat} (h : i < 4) : (sh b).1 123 i = some (131 + 2 * i) := shR_lo (by decide) (by omega) ((by decide : ∀ i, i < 4 → (shRl.getD 123 []).getD i none = some (131 + 2 * i)) i h)

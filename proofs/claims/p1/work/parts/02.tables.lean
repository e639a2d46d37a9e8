/-! tables: which words stand where, fields and methods by number (by program: gen_names.py) -/
def mj_TW : List Cond := lw_tbl.filter goodWord
theorem mj_in {w : Cond} (i : Nat) (h : tables_1[i]? = some w) (hg : goodWord w = true) : w ∈ mj_TW := List.mem_filter.mpr ⟨List.mem_append_right _ (List.mem_of_getElem? h), hg⟩
theorem mj_ip {w : Cond} (i : Nat) (h : (k2_sels lw_privs)[i]? = some w) (hg : goodWord w = true) : w ∈ mj_TW := List.mem_filter.mpr ⟨List.mem_append_left _ (List.mem_of_getElem? h), hg⟩
theorem mj_TWg : ∀ w ∈ mj_TW, goodWord w = true := fun _ h => (List.mem_filter.mp h).2
def mT_C : Nat → String
  | 0 => RJx35411
  | 1 => RJx4a65c
  | 2 => RX0
  | 3 => RX1
  | 4 => RX2
  | 5 => RX3
  | 6 => RX4
  | 7 => RX5
  | 8 => RX6
  | _ => RX7
def mT_T : Nat → u_T
  | 0 => TJx35411
  | 1 => TJx4a65c
  | 2 => TX0
  | 3 => TX1
  | 4 => TX2
  | 5 => TX3
  | 6 => TX4
  | 7 => TX5
  | 8 => TX6
  | _ => TX7
def mT_N : Nat → Nat
  | 0 => 4
  | 1 => 3
  | 2 => 5
  | 3 => 16
  | 4 => 18
  | 5 => 6
  | 6 => 5
  | 7 => 4
  | 8 => 12
  | _ => 7
def mT_ty : Nat → Nat → FieldType
  | 0 => tyJx35411
  | 1 => tyJx4a65c
  | 2 => tyX0
  | 3 => tyX1
  | 4 => tyX2
  | 5 => tyX3
  | 6 => tyX4
  | 7 => tyX5
  | 8 => tyX6
  | _ => tyX7
/-- what a field holds: 0 an int, 1 a reference, 2 a long -/
def mj_isR (ty : FieldType) : Nat := match ty with
  | .int => 0
  | .boolean => 0
  | .long => 2
  | _ => 1
abbrev mT_R (ci k : Nat) : Nat := mj_isR (mT_ty ci k)
theorem mT_at : ∀ ci, ci < 10 → vwCl[ci]? = some (mT_C ci, mT_T ci, mT_N ci)
  | 0, _ => rfl
  | 1, _ => rfl
  | 2, _ => rfl
  | 3, _ => rfl
  | 4, _ => rfl
  | 5, _ => rfl
  | 6, _ => rfl
  | 7, _ => rfl
  | 8, _ => rfl
  | 9, _ => rfl
  | n + 10, h => absurd h (by omega)
theorem mT_nm : ∀ ci, ci < 10 → ∀ a, a < mT_N ci → ∀ b, b < mT_N ci → a ≠ b → (mT_T ci a).2.1 ≠ (mT_T ci b).2.1
  | 0, _ => nmJx35411
  | 1, _ => nmJx4a65c
  | 2, _ => nmX0
  | 3, _ => nmX1
  | 4, _ => nmX2
  | 5, _ => nmX3
  | 6, _ => nmX4
  | 7, _ => nmX5
  | 8, _ => nmX6
  | 9, _ => nmX7
  | n + 10, h => absurd h (by omega)
theorem mT_tyok : ∀ ci, ci < 10 → ∀ k, k < mT_N ci → parseFieldDescriptor (mT_T ci k).2.2.1 = some (mT_ty ci k)
  | 0, _ => tyJx35411_ok
  | 1, _ => tyJx4a65c_ok
  | 2, _ => tyX0_ok
  | 3, _ => tyX1_ok
  | 4, _ => tyX2_ok
  | 5, _ => tyX3_ok
  | 6, _ => tyX4_ok
  | 7, _ => tyX5_ok
  | 8, _ => tyX6_ok
  | 9, _ => tyX7_ok
  | n + 10, h => absurd h (by omega)
theorem mT_in0 : ∀ w ∈ u_ws RJx35411 TJx35411 4, w ∈ mj_TW := by
  intro w hw
  obtain ⟨k, hk, rfl⟩ := List.mem_map.mp hw
  have hk := List.mem_range.mp hk
  match k, hk with
  | 0, _ => exact mj_in 1177 (by decide +kernel) rfl
  | 1, _ => exact mj_in 1179 (by decide +kernel) rfl
  | 2, _ => exact mj_in 1181 (by decide +kernel) rfl
  | 3, _ => exact mj_in 1183 (by decide +kernel) rfl
  | n + 4, h => exact absurd h (by omega)
theorem mT_in1 : ∀ w ∈ u_ws RJx4a65c TJx4a65c 3, w ∈ mj_TW := by
  intro w hw
  obtain ⟨k, hk, rfl⟩ := List.mem_map.mp hw
  have hk := List.mem_range.mp hk
  match k, hk with
  | 0, _ => exact mj_in 871 (by decide +kernel) rfl
  | 1, _ => exact mj_in 867 (by decide +kernel) rfl
  | 2, _ => exact mj_in 869 (by decide +kernel) rfl
  | n + 3, h => exact absurd h (by omega)
theorem mT_in2 : ∀ w ∈ u_ws RX0 TX0 5, w ∈ mj_TW := by
  intro w hw
  obtain ⟨k, hk, rfl⟩ := List.mem_map.mp hw
  have hk := List.mem_range.mp hk
  match k, hk with
  | 0, _ => exact mj_in 60 (by decide +kernel) rfl
  | 1, _ => exact mj_in 62 (by decide +kernel) rfl
  | 2, _ => exact mj_in 64 (by decide +kernel) rfl
  | 3, _ => exact mj_in 66 (by decide +kernel) rfl
  | 4, _ => exact mj_in 68 (by decide +kernel) rfl
  | n + 5, h => exact absurd h (by omega)
theorem mT_in3 : ∀ w ∈ u_ws RX1 TX1 16, w ∈ mj_TW := by
  intro w hw
  obtain ⟨k, hk, rfl⟩ := List.mem_map.mp hw
  have hk := List.mem_range.mp hk
  match k, hk with
  | 0, _ => exact mj_in 229 (by decide +kernel) rfl
  | 1, _ => exact mj_in 231 (by decide +kernel) rfl
  | 2, _ => exact mj_in 233 (by decide +kernel) rfl
  | 3, _ => exact mj_in 235 (by decide +kernel) rfl
  | 4, _ => exact mj_in 237 (by decide +kernel) rfl
  | 5, _ => exact mj_in 239 (by decide +kernel) rfl
  | 6, _ => exact mj_in 241 (by decide +kernel) rfl
  | 7, _ => exact mj_in 243 (by decide +kernel) rfl
  | 8, _ => exact mj_in 245 (by decide +kernel) rfl
  | 9, _ => exact mj_in 247 (by decide +kernel) rfl
  | 10, _ => exact mj_in 249 (by decide +kernel) rfl
  | 11, _ => exact mj_in 251 (by decide +kernel) rfl
  | 12, _ => exact mj_in 253 (by decide +kernel) rfl
  | 13, _ => exact mj_in 255 (by decide +kernel) rfl
  | 14, _ => exact mj_in 257 (by decide +kernel) rfl
  | 15, _ => exact mj_in 259 (by decide +kernel) rfl
  | n + 16, h => exact absurd h (by omega)
theorem mT_in4 : ∀ w ∈ u_ws RX2 TX2 18, w ∈ mj_TW := by
  intro w hw
  obtain ⟨k, hk, rfl⟩ := List.mem_map.mp hw
  have hk := List.mem_range.mp hk
  match k, hk with
  | 0, _ => exact mj_in 160 (by decide +kernel) rfl
  | 1, _ => exact mj_in 162 (by decide +kernel) rfl
  | 2, _ => exact mj_in 164 (by decide +kernel) rfl
  | 3, _ => exact mj_in 166 (by decide +kernel) rfl
  | 4, _ => exact mj_in 168 (by decide +kernel) rfl
  | 5, _ => exact mj_in 170 (by decide +kernel) rfl
  | 6, _ => exact mj_in 172 (by decide +kernel) rfl
  | 7, _ => exact mj_in 174 (by decide +kernel) rfl
  | 8, _ => exact mj_in 176 (by decide +kernel) rfl
  | 9, _ => exact mj_in 178 (by decide +kernel) rfl
  | 10, _ => exact mj_in 180 (by decide +kernel) rfl
  | 11, _ => exact mj_in 182 (by decide +kernel) rfl
  | 12, _ => exact mj_in 184 (by decide +kernel) rfl
  | 13, _ => exact mj_in 186 (by decide +kernel) rfl
  | 14, _ => exact mj_in 188 (by decide +kernel) rfl
  | 15, _ => exact mj_in 190 (by decide +kernel) rfl
  | 16, _ => exact mj_in 192 (by decide +kernel) rfl
  | 17, _ => exact mj_in 194 (by decide +kernel) rfl
  | n + 18, h => exact absurd h (by omega)
theorem mT_in5 : ∀ w ∈ u_ws RX3 TX3 6, w ∈ mj_TW := by
  intro w hw
  obtain ⟨k, hk, rfl⟩ := List.mem_map.mp hw
  have hk := List.mem_range.mp hk
  match k, hk with
  | 0, _ => exact mj_in 95 (by decide +kernel) rfl
  | 1, _ => exact mj_in 97 (by decide +kernel) rfl
  | 2, _ => exact mj_in 99 (by decide +kernel) rfl
  | 3, _ => exact mj_in 101 (by decide +kernel) rfl
  | 4, _ => exact mj_in 103 (by decide +kernel) rfl
  | 5, _ => exact mj_in 105 (by decide +kernel) rfl
  | n + 6, h => exact absurd h (by omega)
theorem mT_in6 : ∀ w ∈ u_ws RX4 TX4 5, w ∈ mj_TW := by
  intro w hw
  obtain ⟨k, hk, rfl⟩ := List.mem_map.mp hw
  have hk := List.mem_range.mp hk
  match k, hk with
  | 0, _ => exact mj_in 279 (by decide +kernel) rfl
  | 1, _ => exact mj_in 281 (by decide +kernel) rfl
  | 2, _ => exact mj_in 283 (by decide +kernel) rfl
  | 3, _ => exact mj_in 285 (by decide +kernel) rfl
  | 4, _ => exact mj_in 287 (by decide +kernel) rfl
  | n + 5, h => exact absurd h (by omega)
theorem mT_in7 : ∀ w ∈ u_ws RX5 TX5 4, w ∈ mj_TW := by
  intro w hw
  obtain ⟨k, hk, rfl⟩ := List.mem_map.mp hw
  have hk := List.mem_range.mp hk
  match k, hk with
  | 0, _ => exact mj_in 294 (by decide +kernel) rfl
  | 1, _ => exact mj_in 296 (by decide +kernel) rfl
  | 2, _ => exact mj_in 298 (by decide +kernel) rfl
  | 3, _ => exact mj_in 300 (by decide +kernel) rfl
  | n + 4, h => exact absurd h (by omega)
theorem mT_in8 : ∀ w ∈ u_ws RX6 TX6 12, w ∈ mj_TW := by
  intro w hw
  obtain ⟨k, hk, rfl⟩ := List.mem_map.mp hw
  have hk := List.mem_range.mp hk
  match k, hk with
  | 0, _ => exact mj_in 898 (by decide +kernel) rfl
  | 1, _ => exact mj_in 900 (by decide +kernel) rfl
  | 2, _ => exact mj_in 902 (by decide +kernel) rfl
  | 3, _ => exact mj_in 904 (by decide +kernel) rfl
  | 4, _ => exact mj_in 906 (by decide +kernel) rfl
  | 5, _ => exact mj_in 908 (by decide +kernel) rfl
  | 6, _ => exact mj_in 910 (by decide +kernel) rfl
  | 7, _ => exact mj_in 912 (by decide +kernel) rfl
  | 8, _ => exact mj_in 914 (by decide +kernel) rfl
  | 9, _ => exact mj_in 916 (by decide +kernel) rfl
  | 10, _ => exact mj_in 918 (by decide +kernel) rfl
  | 11, _ => exact mj_in 920 (by decide +kernel) rfl
  | n + 12, h => exact absurd h (by omega)
theorem mT_in9 : ∀ w ∈ u_ws RX7 TX7 7, w ∈ mj_TW := by
  intro w hw
  obtain ⟨k, hk, rfl⟩ := List.mem_map.mp hw
  have hk := List.mem_range.mp hk
  match k, hk with
  | 0, _ => exact mj_in 930 (by decide +kernel) rfl
  | 1, _ => exact mj_in 932 (by decide +kernel) rfl
  | 2, _ => exact mj_in 934 (by decide +kernel) rfl
  | 3, _ => exact mj_in 936 (by decide +kernel) rfl
  | 4, _ => exact mj_in 938 (by decide +kernel) rfl
  | 5, _ => exact mj_in 940 (by decide +kernel) rfl
  | 6, _ => exact mj_in 942 (by decide +kernel) rfl
  | n + 7, h => exact absurd h (by omega)
theorem mT_in : ∀ ci, ci < 10 → ∀ w ∈ u_ws (mT_C ci) (mT_T ci) (mT_N ci), w ∈ mj_TW
  | 0, _ => mT_in0
  | 1, _ => mT_in1
  | 2, _ => mT_in2
  | 3, _ => mT_in3
  | 4, _ => mT_in4
  | 5, _ => mT_in5
  | 6, _ => mT_in6
  | 7, _ => mT_in7
  | 8, _ => mT_in8
  | 9, _ => mT_in9
  | n + 10, h => absurd h (by omega)
/-- a field by its link -/
def mj_okF (own : String) (idx ci sl : Nat) : Prop := ci < 10 ∧ sl < mT_N ci ∧ Cond.fieldLink own idx (mT_T ci sl).1 (mT_T ci sl).2.1 (mT_T ci sl).2.2.1 ∈ mj_TW
theorem fl_X0_7 : mj_okF RX0 7 2 0 := ⟨by decide, by decide, mj_in 46 (by decide +kernel) rfl⟩
theorem fl_X5_48 : mj_okF RX5 48 2 0 := ⟨by decide, by decide, mj_in 47 (by decide +kernel) rfl⟩
theorem fl_X1_214 : mj_okF RX1 214 2 0 := ⟨by decide, by decide, mj_in 48 (by decide +kernel) rfl⟩
theorem fl_X0_13 : mj_okF RX0 13 2 1 := ⟨by decide, by decide, mj_in 49 (by decide +kernel) rfl⟩
theorem fl_X5_53 : mj_okF RX5 53 2 1 := ⟨by decide, by decide, mj_in 50 (by decide +kernel) rfl⟩
theorem fl_X1_188 : mj_okF RX1 188 2 1 := ⟨by decide, by decide, mj_in 51 (by decide +kernel) rfl⟩
theorem fl_X0_16 : mj_okF RX0 16 2 2 := ⟨by decide, by decide, mj_in 52 (by decide +kernel) rfl⟩
theorem fl_X5_86 : mj_okF RX5 86 2 2 := ⟨by decide, by decide, mj_in 53 (by decide +kernel) rfl⟩
theorem fl_X0_20 : mj_okF RX0 20 2 3 := ⟨by decide, by decide, mj_in 54 (by decide +kernel) rfl⟩
theorem fl_X5_95 : mj_okF RX5 95 2 3 := ⟨by decide, by decide, mj_in 55 (by decide +kernel) rfl⟩
theorem fl_X1_191 : mj_okF RX1 191 2 3 := ⟨by decide, by decide, mj_in 56 (by decide +kernel) rfl⟩
theorem fl_X0_23 : mj_okF RX0 23 2 4 := ⟨by decide, by decide, mj_in 57 (by decide +kernel) rfl⟩
theorem fl_X1_217 : mj_okF RX1 217 2 4 := ⟨by decide, by decide, mj_in 58 (by decide +kernel) rfl⟩
theorem fl_X5_241 : mj_okF RX5 241 2 4 := ⟨by decide, by decide, mj_in 59 (by decide +kernel) rfl⟩
theorem fl_X3_9 : mj_okF RX3 9 5 0 := ⟨by decide, by decide, mj_in 84 (by decide +kernel) rfl⟩
theorem fl_X5_231 : mj_okF RX5 231 5 0 := ⟨by decide, by decide, mj_in 85 (by decide +kernel) rfl⟩
theorem fl_X3_15 : mj_okF RX3 15 5 1 := ⟨by decide, by decide, mj_in 86 (by decide +kernel) rfl⟩
theorem fl_X5_235 : mj_okF RX5 235 5 1 := ⟨by decide, by decide, mj_in 87 (by decide +kernel) rfl⟩
theorem fl_X3_18 : mj_okF RX3 18 5 2 := ⟨by decide, by decide, mj_in 88 (by decide +kernel) rfl⟩
theorem fl_X5_238 : mj_okF RX5 238 5 2 := ⟨by decide, by decide, mj_in 89 (by decide +kernel) rfl⟩
theorem fl_X3_27 : mj_okF RX3 27 5 3 := ⟨by decide, by decide, mj_in 90 (by decide +kernel) rfl⟩
theorem fl_X5_176 : mj_okF RX5 176 5 3 := ⟨by decide, by decide, mj_in 91 (by decide +kernel) rfl⟩
theorem fl_X3_31 : mj_okF RX3 31 5 4 := ⟨by decide, by decide, mj_in 92 (by decide +kernel) rfl⟩
theorem fl_X5_205 : mj_okF RX5 205 5 4 := ⟨by decide, by decide, mj_in 93 (by decide +kernel) rfl⟩
theorem fl_X3_35 : mj_okF RX3 35 5 5 := ⟨by decide, by decide, mj_in 94 (by decide +kernel) rfl⟩
theorem fl_X2_12 : mj_okF RX2 12 4 0 := ⟨by decide, by decide, mj_in 109 (by decide +kernel) rfl⟩
theorem fl_X1_89 : mj_okF RX1 89 4 0 := ⟨by decide, by decide, mj_in 110 (by decide +kernel) rfl⟩
theorem fl_X5_169 : mj_okF RX5 169 4 0 := ⟨by decide, by decide, mj_in 111 (by decide +kernel) rfl⟩
theorem fl_X2_26 : mj_okF RX2 26 4 1 := ⟨by decide, by decide, mj_in 112 (by decide +kernel) rfl⟩
theorem fl_X5_69 : mj_okF RX5 69 4 1 := ⟨by decide, by decide, mj_in 113 (by decide +kernel) rfl⟩
theorem fl_X1_86 : mj_okF RX1 86 4 1 := ⟨by decide, by decide, mj_in 114 (by decide +kernel) rfl⟩
theorem fl_X2_29 : mj_okF RX2 29 4 2 := ⟨by decide, by decide, mj_in 115 (by decide +kernel) rfl⟩
theorem fl_X5_74 : mj_okF RX5 74 4 2 := ⟨by decide, by decide, mj_in 116 (by decide +kernel) rfl⟩
theorem fl_X1_158 : mj_okF RX1 158 4 2 := ⟨by decide, by decide, mj_in 117 (by decide +kernel) rfl⟩
theorem fl_X2_32 : mj_okF RX2 32 4 3 := ⟨by decide, by decide, mj_in 118 (by decide +kernel) rfl⟩
theorem fl_X5_77 : mj_okF RX5 77 4 3 := ⟨by decide, by decide, mj_in 119 (by decide +kernel) rfl⟩
theorem fl_X2_35 : mj_okF RX2 35 4 4 := ⟨by decide, by decide, mj_in 120 (by decide +kernel) rfl⟩
theorem fl_X5_80 : mj_okF RX5 80 4 4 := ⟨by decide, by decide, mj_in 121 (by decide +kernel) rfl⟩
theorem fl_X2_38 : mj_okF RX2 38 4 5 := ⟨by decide, by decide, mj_in 122 (by decide +kernel) rfl⟩
theorem fl_X5_83 : mj_okF RX5 83 4 5 := ⟨by decide, by decide, mj_in 123 (by decide +kernel) rfl⟩
theorem fl_X1_99 : mj_okF RX1 99 4 5 := ⟨by decide, by decide, mj_in 124 (by decide +kernel) rfl⟩
theorem fl_X2_41 : mj_okF RX2 41 4 6 := ⟨by decide, by decide, mj_in 125 (by decide +kernel) rfl⟩
theorem fl_X1_75 : mj_okF RX1 75 4 6 := ⟨by decide, by decide, mj_in 126 (by decide +kernel) rfl⟩
theorem fl_X5_101 : mj_okF RX5 101 4 6 := ⟨by decide, by decide, mj_in 127 (by decide +kernel) rfl⟩
theorem fl_X2_44 : mj_okF RX2 44 4 7 := ⟨by decide, by decide, mj_in 128 (by decide +kernel) rfl⟩
theorem fl_X1_197 : mj_okF RX1 197 4 7 := ⟨by decide, by decide, mj_in 129 (by decide +kernel) rfl⟩
theorem fl_X5_219 : mj_okF RX5 219 4 7 := ⟨by decide, by decide, mj_in 130 (by decide +kernel) rfl⟩
theorem fl_X2_47 : mj_okF RX2 47 4 8 := ⟨by decide, by decide, mj_in 131 (by decide +kernel) rfl⟩
theorem fl_X5_222 : mj_okF RX5 222 4 8 := ⟨by decide, by decide, mj_in 132 (by decide +kernel) rfl⟩
theorem fl_X1_224 : mj_okF RX1 224 4 8 := ⟨by decide, by decide, mj_in 133 (by decide +kernel) rfl⟩
theorem fl_X2_50 : mj_okF RX2 50 4 9 := ⟨by decide, by decide, mj_in 134 (by decide +kernel) rfl⟩
theorem fl_X1_149 : mj_okF RX1 149 4 9 := ⟨by decide, by decide, mj_in 135 (by decide +kernel) rfl⟩
theorem fl_X5_225 : mj_okF RX5 225 4 9 := ⟨by decide, by decide, mj_in 136 (by decide +kernel) rfl⟩
theorem fl_X2_53 : mj_okF RX2 53 4 10 := ⟨by decide, by decide, mj_in 137 (by decide +kernel) rfl⟩
theorem fl_X5_140 : mj_okF RX5 140 4 10 := ⟨by decide, by decide, mj_in 138 (by decide +kernel) rfl⟩
theorem fl_X1_132 : mj_okF RX1 132 4 10 := ⟨by decide, by decide, mj_in 139 (by decide +kernel) rfl⟩
theorem fl_X2_56 : mj_okF RX2 56 4 11 := ⟨by decide, by decide, mj_in 140 (by decide +kernel) rfl⟩
theorem fl_X1_118 : mj_okF RX1 118 4 11 := ⟨by decide, by decide, mj_in 141 (by decide +kernel) rfl⟩
theorem fl_X5_157 : mj_okF RX5 157 4 11 := ⟨by decide, by decide, mj_in 142 (by decide +kernel) rfl⟩
theorem fl_X2_18 : mj_okF RX2 18 4 12 := ⟨by decide, by decide, mj_in 143 (by decide +kernel) rfl⟩
theorem fl_X1_102 : mj_okF RX1 102 4 12 := ⟨by decide, by decide, mj_in 144 (by decide +kernel) rfl⟩
theorem fl_X5_160 : mj_okF RX5 160 4 12 := ⟨by decide, by decide, mj_in 145 (by decide +kernel) rfl⟩
theorem fl_X2_59 : mj_okF RX2 59 4 13 := ⟨by decide, by decide, mj_in 146 (by decide +kernel) rfl⟩
theorem fl_X5_197 : mj_okF RX5 197 4 13 := ⟨by decide, by decide, mj_in 147 (by decide +kernel) rfl⟩
theorem fl_X2_62 : mj_okF RX2 62 4 14 := ⟨by decide, by decide, mj_in 148 (by decide +kernel) rfl⟩
theorem fl_X1_175 : mj_okF RX1 175 4 14 := ⟨by decide, by decide, mj_in 149 (by decide +kernel) rfl⟩
theorem fl_X5_274 : mj_okF RX5 274 4 14 := ⟨by decide, by decide, mj_in 150 (by decide +kernel) rfl⟩
theorem fl_X2_65 : mj_okF RX2 65 4 15 := ⟨by decide, by decide, mj_in 151 (by decide +kernel) rfl⟩
theorem fl_X1_78 : mj_okF RX1 78 4 15 := ⟨by decide, by decide, mj_in 152 (by decide +kernel) rfl⟩
theorem fl_X5_194 : mj_okF RX5 194 4 15 := ⟨by decide, by decide, mj_in 153 (by decide +kernel) rfl⟩
theorem fl_X2_69 : mj_okF RX2 69 4 16 := ⟨by decide, by decide, mj_in 154 (by decide +kernel) rfl⟩
theorem fl_X1_135 : mj_okF RX1 135 4 16 := ⟨by decide, by decide, mj_in 155 (by decide +kernel) rfl⟩
theorem fl_X5_166 : mj_okF RX5 166 4 16 := ⟨by decide, by decide, mj_in 156 (by decide +kernel) rfl⟩
theorem fl_X2_72 : mj_okF RX2 72 4 17 := ⟨by decide, by decide, mj_in 157 (by decide +kernel) rfl⟩
theorem fl_X1_121 : mj_okF RX1 121 4 17 := ⟨by decide, by decide, mj_in 158 (by decide +kernel) rfl⟩
theorem fl_X5_163 : mj_okF RX5 163 4 17 := ⟨by decide, by decide, mj_in 159 (by decide +kernel) rfl⟩
theorem fl_X1_11 : mj_okF RX1 11 3 0 := ⟨by decide, by decide, mj_in 197 (by decide +kernel) rfl⟩
theorem fl_X5_44 : mj_okF RX5 44 3 0 := ⟨by decide, by decide, mj_in 198 (by decide +kernel) rfl⟩
theorem fl_X1_20 : mj_okF RX1 20 3 1 := ⟨by decide, by decide, mj_in 199 (by decide +kernel) rfl⟩
theorem fl_X5_65 : mj_okF RX5 65 3 1 := ⟨by decide, by decide, mj_in 200 (by decide +kernel) rfl⟩
theorem fl_X1_35 : mj_okF RX1 35 3 2 := ⟨by decide, by decide, mj_in 201 (by decide +kernel) rfl⟩
theorem fl_X5_33 : mj_okF RX5 33 3 2 := ⟨by decide, by decide, mj_in 202 (by decide +kernel) rfl⟩
theorem fl_X1_42 : mj_okF RX1 42 3 3 := ⟨by decide, by decide, mj_in 203 (by decide +kernel) rfl⟩
theorem fl_X5_60 : mj_okF RX5 60 3 3 := ⟨by decide, by decide, mj_in 204 (by decide +kernel) rfl⟩
theorem fl_X1_48 : mj_okF RX1 48 3 4 := ⟨by decide, by decide, mj_in 205 (by decide +kernel) rfl⟩
theorem fl_X5_116 : mj_okF RX5 116 3 4 := ⟨by decide, by decide, mj_in 206 (by decide +kernel) rfl⟩
theorem fl_X1_51 : mj_okF RX1 51 3 5 := ⟨by decide, by decide, mj_in 207 (by decide +kernel) rfl⟩
theorem fl_X5_90 : mj_okF RX5 90 3 5 := ⟨by decide, by decide, mj_in 208 (by decide +kernel) rfl⟩
theorem fl_X1_25 : mj_okF RX1 25 3 6 := ⟨by decide, by decide, mj_in 209 (by decide +kernel) rfl⟩
theorem fl_X5_104 : mj_okF RX5 104 3 6 := ⟨by decide, by decide, mj_in 210 (by decide +kernel) rfl⟩
theorem fl_X1_29 : mj_okF RX1 29 3 7 := ⟨by decide, by decide, mj_in 211 (by decide +kernel) rfl⟩
theorem fl_X5_135 : mj_okF RX5 135 3 7 := ⟨by decide, by decide, mj_in 212 (by decide +kernel) rfl⟩
theorem fl_X1_32 : mj_okF RX1 32 3 8 := ⟨by decide, by decide, mj_in 213 (by decide +kernel) rfl⟩
theorem fl_X5_183 : mj_okF RX5 183 3 8 := ⟨by decide, by decide, mj_in 214 (by decide +kernel) rfl⟩
theorem fl_X1_54 : mj_okF RX1 54 3 9 := ⟨by decide, by decide, mj_in 215 (by decide +kernel) rfl⟩
theorem fl_X5_113 : mj_okF RX5 113 3 9 := ⟨by decide, by decide, mj_in 216 (by decide +kernel) rfl⟩
theorem fl_X1_57 : mj_okF RX1 57 3 10 := ⟨by decide, by decide, mj_in 217 (by decide +kernel) rfl⟩
theorem fl_X5_121 : mj_okF RX5 121 3 10 := ⟨by decide, by decide, mj_in 218 (by decide +kernel) rfl⟩
theorem fl_X1_60 : mj_okF RX1 60 3 11 := ⟨by decide, by decide, mj_in 219 (by decide +kernel) rfl⟩
theorem fl_X5_251 : mj_okF RX5 251 3 11 := ⟨by decide, by decide, mj_in 220 (by decide +kernel) rfl⟩
theorem fl_X1_63 : mj_okF RX1 63 3 12 := ⟨by decide, by decide, mj_in 221 (by decide +kernel) rfl⟩
theorem fl_X5_254 : mj_okF RX5 254 3 12 := ⟨by decide, by decide, mj_in 222 (by decide +kernel) rfl⟩
theorem fl_X1_66 : mj_okF RX1 66 3 13 := ⟨by decide, by decide, mj_in 223 (by decide +kernel) rfl⟩
theorem fl_X5_257 : mj_okF RX5 257 3 13 := ⟨by decide, by decide, mj_in 224 (by decide +kernel) rfl⟩
theorem fl_X1_69 : mj_okF RX1 69 3 14 := ⟨by decide, by decide, mj_in 225 (by decide +kernel) rfl⟩
theorem fl_X5_260 : mj_okF RX5 260 3 14 := ⟨by decide, by decide, mj_in 226 (by decide +kernel) rfl⟩
theorem fl_X1_72 : mj_okF RX1 72 3 15 := ⟨by decide, by decide, mj_in 227 (by decide +kernel) rfl⟩
theorem fl_X5_261 : mj_okF RX5 261 3 15 := ⟨by decide, by decide, mj_in 228 (by decide +kernel) rfl⟩
theorem fl_X4_7 : mj_okF RX4 7 6 0 := ⟨by decide, by decide, mj_in 268 (by decide +kernel) rfl⟩
theorem fl_X1_155 : mj_okF RX1 155 6 0 := ⟨by decide, by decide, mj_in 269 (by decide +kernel) rfl⟩
theorem fl_X4_13 : mj_okF RX4 13 6 1 := ⟨by decide, by decide, mj_in 270 (by decide +kernel) rfl⟩
theorem fl_X2_85 : mj_okF RX2 85 6 1 := ⟨by decide, by decide, mj_in 271 (by decide +kernel) rfl⟩
theorem fl_X4_16 : mj_okF RX4 16 6 2 := ⟨by decide, by decide, mj_in 272 (by decide +kernel) rfl⟩
theorem fl_X2_94 : mj_okF RX2 94 6 2 := ⟨by decide, by decide, mj_in 273 (by decide +kernel) rfl⟩
theorem fl_X1_150 : mj_okF RX1 150 6 2 := ⟨by decide, by decide, mj_in 274 (by decide +kernel) rfl⟩
theorem fl_X4_19 : mj_okF RX4 19 6 3 := ⟨by decide, by decide, mj_in 275 (by decide +kernel) rfl⟩
theorem fl_X2_97 : mj_okF RX2 97 6 3 := ⟨by decide, by decide, mj_in 276 (by decide +kernel) rfl⟩
theorem fl_X4_22 : mj_okF RX4 22 6 4 := ⟨by decide, by decide, mj_in 277 (by decide +kernel) rfl⟩
theorem fl_X1_168 : mj_okF RX1 168 6 4 := ⟨by decide, by decide, mj_in 278 (by decide +kernel) rfl⟩
theorem fl_X5_10 : mj_okF RX5 10 7 0 := ⟨by decide, by decide, mj_in 290 (by decide +kernel) rfl⟩
theorem fl_X5_16 : mj_okF RX5 16 7 1 := ⟨by decide, by decide, mj_in 291 (by decide +kernel) rfl⟩
theorem fl_X5_19 : mj_okF RX5 19 7 2 := ⟨by decide, by decide, mj_in 292 (by decide +kernel) rfl⟩
theorem fl_X5_25 : mj_okF RX5 25 7 3 := ⟨by decide, by decide, mj_in 293 (by decide +kernel) rfl⟩
theorem fl_Jx4a65c_9 : mj_okF RJx4a65c 9 1 1 := ⟨by decide, by decide, mj_in 859 (by decide +kernel) rfl⟩
theorem fl_Jx35411_37 : mj_okF RJx35411 37 1 1 := ⟨by decide, by decide, mj_in 860 (by decide +kernel) rfl⟩
theorem fl_Jx4a65c_48 : mj_okF RJx4a65c 48 1 2 := ⟨by decide, by decide, mj_in 862 (by decide +kernel) rfl⟩
theorem fl_X6_12 : mj_okF RX6 12 8 0 := ⟨by decide, by decide, mj_in 874 (by decide +kernel) rfl⟩
theorem fl_X6_18 : mj_okF RX6 18 8 1 := ⟨by decide, by decide, mj_in 876 (by decide +kernel) rfl⟩
theorem fl_X6_52 : mj_okF RX6 52 8 2 := ⟨by decide, by decide, mj_in 878 (by decide +kernel) rfl⟩
theorem fl_X6_21 : mj_okF RX6 21 8 3 := ⟨by decide, by decide, mj_in 880 (by decide +kernel) rfl⟩
theorem fl_X6_55 : mj_okF RX6 55 8 4 := ⟨by decide, by decide, mj_in 882 (by decide +kernel) rfl⟩
theorem fl_X6_69 : mj_okF RX6 69 8 5 := ⟨by decide, by decide, mj_in 884 (by decide +kernel) rfl⟩
theorem fl_X6_72 : mj_okF RX6 72 8 6 := ⟨by decide, by decide, mj_in 886 (by decide +kernel) rfl⟩
theorem fl_X6_145 : mj_okF RX6 145 8 7 := ⟨by decide, by decide, mj_in 888 (by decide +kernel) rfl⟩
theorem fl_X6_165 : mj_okF RX6 165 8 8 := ⟨by decide, by decide, mj_in 890 (by decide +kernel) rfl⟩
theorem fl_X6_162 : mj_okF RX6 162 8 9 := ⟨by decide, by decide, mj_in 892 (by decide +kernel) rfl⟩
theorem fl_X6_25 : mj_okF RX6 25 8 10 := ⟨by decide, by decide, mj_in 894 (by decide +kernel) rfl⟩
theorem fl_X6_136 : mj_okF RX6 136 8 11 := ⟨by decide, by decide, mj_in 896 (by decide +kernel) rfl⟩
theorem fl_X7_23 : mj_okF RX7 23 9 0 := ⟨by decide, by decide, mj_in 923 (by decide +kernel) rfl⟩
theorem fl_X7_12 : mj_okF RX7 12 9 1 := ⟨by decide, by decide, mj_in 924 (by decide +kernel) rfl⟩
theorem fl_X7_16 : mj_okF RX7 16 9 2 := ⟨by decide, by decide, mj_in 925 (by decide +kernel) rfl⟩
theorem fl_X7_135 : mj_okF RX7 135 9 3 := ⟨by decide, by decide, mj_in 926 (by decide +kernel) rfl⟩
theorem fl_X7_20 : mj_okF RX7 20 9 4 := ⟨by decide, by decide, mj_in 927 (by decide +kernel) rfl⟩
theorem fl_X7_107 : mj_okF RX7 107 9 5 := ⟨by decide, by decide, mj_in 928 (by decide +kernel) rfl⟩
theorem fl_X7_235 : mj_okF RX7 235 9 6 := ⟨by decide, by decide, mj_in 929 (by decide +kernel) rfl⟩
theorem fl_Jx35411_25 : mj_okF RJx35411 25 0 0 := ⟨by decide, by decide, mj_in 1173 (by decide +kernel) rfl⟩
theorem fl_Jx35411_13 : mj_okF RJx35411 13 0 1 := ⟨by decide, by decide, mj_in 1174 (by decide +kernel) rfl⟩
theorem fl_Jx35411_22 : mj_okF RJx35411 22 0 2 := ⟨by decide, by decide, mj_in 1175 (by decide +kernel) rfl⟩
theorem fl_Jx35411_1 : mj_okF RJx35411 1 0 3 := ⟨by decide, by decide, mj_in 1176 (by decide +kernel) rfl⟩
abbrev mj_M0 : Type := MethodName × ByteArray × Nat × Option FieldType × String × Bool × List (Nat × Nat × Nat × Nat)
/-- what a call of the method wants of the tables; n: how many arguments without the receiver -/
def mj_okV (K : mj_M0) (n : Nat) : Prop := (Cond.instanceMethod K.1 ∈ mj_TW ∧ Cond.selects K.1.cls K.1 K.1 ∈ mj_TW ∧ Cond.initialized K.1.cls ∈ mj_TW ∧ Cond.code K.1 K.2.1 K.2.2.1 K.2.2.2.1 ∈ mj_TW) ∧ K.1.cls ≠ "java/lang/invoke/MethodHandle" ∧ K.1.cls ≠ "java/lang/invoke/VarHandle" ∧ (parseMethodDescriptor K.1.desc).map (fun d => d.parameters.length) = some n
def mj_okS (K : mj_M0) (n : Nat) : Prop := (Cond.static K.1 ∈ mj_TW ∧ Cond.initialized K.1.cls ∈ mj_TW ∧ Cond.code K.1 K.2.1 K.2.2.1 K.2.2.2.1 ∈ mj_TW) ∧ K.1.cls ≠ "java/lang/invoke/MethodHandle" ∧ K.1.cls ≠ "java/lang/invoke/VarHandle" ∧ (parseMethodDescriptor K.1.desc).map (fun d => d.parameters.length) = some n
def mj_okH (K : mj_M0) (n : Nat) : Prop := (Cond.static K.1 ∈ mj_TW ∧ Cond.initialized K.1.cls ∈ mj_TW ∧ Cond.codeWith K.1 K.2.1 K.2.2.1 K.2.2.2.1 K.2.2.2.2.2.2 ∈ mj_TW) ∧ K.1.cls ≠ "java/lang/invoke/MethodHandle" ∧ K.1.cls ≠ "java/lang/invoke/VarHandle" ∧ (parseMethodDescriptor K.1.desc).map (fun d => d.parameters.length) = some n
def mj_okI (K : mj_M0) (n : Nat) : Prop := (Cond.instanceMethod K.1 ∈ mj_TW ∧ Cond.initialized K.1.cls ∈ mj_TW ∧ Cond.code K.1 K.2.1 K.2.2.1 none ∈ mj_TW) ∧ (K.1.cls ≠ "java/lang/invoke/MethodHandle" ∧ K.1.cls ≠ "java/lang/invoke/VarHandle" ∧ (parseMethodDescriptor K.1.desc).map (fun d => d.parameters.length) = some n) ∧ K.1.name = "<init>" ∧ K.2.2.2.1 = none
abbrev m_J15_checkIndex_7cf53 : mj_M0 := (yJ15_checkIndex_7cf53, cJ15_checkIndex_7cf53, 2, (some .int), RJ15, false, [])
set_option maxRecDepth 100000 in
theorem ok_J15_checkIndex_7cf53 : mj_okS m_J15_checkIndex_7cf53 2 := ⟨⟨mj_in 1035 (by decide +kernel) rfl, mj_in 22 (by decide +kernel) rfl, mj_in 1036 rfl rfl⟩, by decide +kernel, by decide +kernel, by decide +kernel⟩
abbrev m_J3_checkIndex_8e157 : mj_M0 := (yJ3_checkIndex_8e157, cJ3_checkIndex_8e157, 3, (some .int), RJ3, false, [])
set_option maxRecDepth 100000 in
theorem ok_J3_checkIndex_8e157 : mj_okS m_J3_checkIndex_8e157 3 := ⟨⟨mj_in 1038 (by decide +kernel) rfl, mj_in 23 (by decide +kernel) rfl, mj_in 1039 rfl rfl⟩, by decide +kernel, by decide +kernel, by decide +kernel⟩
abbrev m_J7_copyOf_1904c : mj_M0 := (yJ7_copyOf_1904c, cJ7_copyOf_1904c, 2, (some (.array (.object "java/lang/Object"))), RJ7, false, [])
set_option maxRecDepth 100000 in
theorem ok_J7_copyOf_1904c : mj_okS m_J7_copyOf_1904c 2 := ⟨⟨mj_in 989 (by decide +kernel) rfl, mj_in 19 (by decide +kernel) rfl, mj_in 990 rfl rfl⟩, by decide +kernel, by decide +kernel, by decide +kernel⟩
abbrev m_J7_copyOf_6403c : mj_M0 := (yJ7_copyOf_6403c, cJ7_copyOf_6403c, 4, (some (.array (.object "java/lang/Object"))), RJ7, false, [])
set_option maxRecDepth 100000 in
theorem ok_J7_copyOf_6403c : mj_okS m_J7_copyOf_6403c 3 := ⟨⟨mj_in 1009 (by decide +kernel) rfl, mj_in 19 (by decide +kernel) rfl, mj_in 1010 rfl rfl⟩, by decide +kernel, by decide +kernel, by decide +kernel⟩
abbrev m_J8_hugeLength_7cf53 : mj_M0 := (yJ8_hugeLength_7cf53, cJ8_hugeLength_7cf53, 3, (some .int), RJ8, false, [])
set_option maxRecDepth 100000 in
theorem ok_J8_hugeLength_7cf53 : mj_okS m_J8_hugeLength_7cf53 2 := ⟨⟨mj_in 986 (by decide +kernel) rfl, mj_in 17 (by decide +kernel) rfl, mj_in 987 rfl rfl⟩, by decide +kernel, by decide +kernel, by decide +kernel⟩
abbrev m_J8_newLength_cabcc : mj_M0 := (yJ8_newLength_cabcc, cJ8_newLength_cabcc, 4, (some .int), RJ8, false, [])
set_option maxRecDepth 100000 in
theorem ok_J8_newLength_cabcc : mj_okS m_J8_newLength_cabcc 3 := ⟨⟨mj_in 981 (by decide +kernel) rfl, mj_in 17 (by decide +kernel) rfl, mj_in 982 rfl rfl⟩, by decide +kernel, by decide +kernel, by decide +kernel⟩
abbrev m_J9_max_7cf53 : mj_M0 := (yJ9_max_7cf53, cJ9_max_7cf53, 2, (some .int), RJ9, false, [])
set_option maxRecDepth 100000 in
theorem ok_J9_max_7cf53 : mj_okS m_J9_max_7cf53 2 := ⟨⟨mj_in 324 (by decide +kernel) rfl, mj_in 18 (by decide +kernel) rfl, mj_in 325 rfl rfl⟩, by decide +kernel, by decide +kernel, by decide +kernel⟩
abbrev m_J9_min_7cf53 : mj_M0 := (yJ9_min_7cf53, cJ9_min_7cf53, 2, (some .int), RJ9, false, [])
set_option maxRecDepth 100000 in
theorem ok_J9_min_7cf53 : mj_okS m_J9_min_7cf53 2 := ⟨⟨mj_in 347 (by decide +kernel) rfl, mj_in 18 (by decide +kernel) rfl, mj_in 348 rfl rfl⟩, by decide +kernel, by decide +kernel, by decide +kernel⟩
abbrev m_Jx35411_checkForComodification_da8c8 : mj_M0 := (yJx35411_checkForComodification_da8c8, cJx35411_checkForComodification_da8c8, 1, none, RJx35411, false, [])
set_option maxRecDepth 100000 in
theorem ok_Jx35411_checkForComodification_da8c8 : mj_okV m_Jx35411_checkForComodification_da8c8 0 := ⟨⟨mj_in 1206 (by decide +kernel) rfl, mj_in 1207 (by decide +kernel) rfl, mj_in 24 (by decide +kernel) rfl, mj_in 1208 rfl rfl⟩, by decide +kernel, by decide +kernel, by decide +kernel⟩
abbrev m_Jx35411_hasNext_aae02 : mj_M0 := (yJx35411_hasNext_aae02, cJx35411_hasNext_aae02, 1, (some .boolean), RJx35411, false, [])
set_option maxRecDepth 100000 in
abbrev m_Jx35411_init_45d68 : mj_M0 := (yJx35411_init_45d68, cJx35411_init_45d68, 2, none, RJx35411, true, [])
set_option maxRecDepth 100000 in
theorem ok_Jx35411_init_45d68 : mj_okI m_Jx35411_init_45d68 1 := ⟨⟨mj_in 1170 (by decide +kernel) rfl, mj_in 24 (by decide +kernel) rfl, mj_in 1171 rfl rfl⟩, ⟨by decide +kernel, by decide +kernel, by decide +kernel⟩, rfl, rfl⟩
abbrev m_Jx35411_next_0502b : mj_M0 := (yJx35411_next_0502b, cJx35411_next_0502b, 3, (some (.object "java/lang/Object")), RJx35411, false, [])
set_option maxRecDepth 100000 in
abbrev m_Jx4a65c_add_72be8 : mj_M0 := (yJx4a65c_add_72be8, cJx4a65c_add_72be8, 4, none, RJx4a65c, false, [])
set_option maxRecDepth 100000 in
theorem ok_Jx4a65c_add_72be8 : mj_okV m_Jx4a65c_add_72be8 3 := ⟨⟨mj_in 970 (by decide +kernel) rfl, mj_ip 6 (by decide +kernel) rfl, mj_in 11 (by decide +kernel) rfl, mj_in 971 rfl rfl⟩, by decide +kernel, by decide +kernel, by decide +kernel⟩
abbrev m_Jx4a65c_add_9ea2d : mj_M0 := (yJx4a65c_add_9ea2d, cJx4a65c_add_9ea2d, 2, (some .boolean), RJx4a65c, false, [])
set_option maxRecDepth 100000 in
theorem ok_Jx4a65c_add_9ea2d : mj_okV m_Jx4a65c_add_9ea2d 1 := ⟨⟨mj_in 965 (by decide +kernel) rfl, mj_in 966 (by decide +kernel) rfl, mj_in 11 (by decide +kernel) rfl, mj_in 967 rfl rfl⟩, by decide +kernel, by decide +kernel, by decide +kernel⟩
abbrev m_Jx4a65c_elementData_915e3 : mj_M0 := (yJx4a65c_elementData_915e3, cJx4a65c_elementData_915e3, 2, (some (.object "java/lang/Object")), RJx4a65c, false, [])
set_option maxRecDepth 100000 in
theorem ok_Jx4a65c_elementData_915e3 : mj_okV m_Jx4a65c_elementData_915e3 1 := ⟨⟨mj_in 1041 (by decide +kernel) rfl, mj_in 1042 (by decide +kernel) rfl, mj_in 11 (by decide +kernel) rfl, mj_in 1043 rfl rfl⟩, by decide +kernel, by decide +kernel, by decide +kernel⟩
abbrev m_Jx4a65c_get_915e3 : mj_M0 := (yJx4a65c_get_915e3, cJx4a65c_get_915e3, 2, (some (.object "java/lang/Object")), RJx4a65c, false, [])
set_option maxRecDepth 100000 in
theorem ok_Jx4a65c_get_915e3 : mj_okV m_Jx4a65c_get_915e3 1 := ⟨⟨mj_in 1031 (by decide +kernel) rfl, mj_in 1032 (by decide +kernel) rfl, mj_in 11 (by decide +kernel) rfl, mj_in 1033 rfl rfl⟩, by decide +kernel, by decide +kernel, by decide +kernel⟩
abbrev m_Jx4a65c_grow_92f84 : mj_M0 := (yJx4a65c_grow_92f84, cJx4a65c_grow_92f84, 4, (some (.array (.object "java/lang/Object"))), RJx4a65c, false, [])
set_option maxRecDepth 100000 in
theorem ok_Jx4a65c_grow_92f84 : mj_okV m_Jx4a65c_grow_92f84 1 := ⟨⟨mj_in 978 (by decide +kernel) rfl, mj_ip 8 (by decide +kernel) rfl, mj_in 11 (by decide +kernel) rfl, mj_in 979 rfl rfl⟩, by decide +kernel, by decide +kernel, by decide +kernel⟩
abbrev m_Jx4a65c_grow_d5877 : mj_M0 := (yJx4a65c_grow_d5877, cJx4a65c_grow_d5877, 1, (some (.array (.object "java/lang/Object"))), RJx4a65c, false, [])
set_option maxRecDepth 100000 in
theorem ok_Jx4a65c_grow_d5877 : mj_okV m_Jx4a65c_grow_d5877 0 := ⟨⟨mj_in 974 (by decide +kernel) rfl, mj_ip 7 (by decide +kernel) rfl, mj_in 11 (by decide +kernel) rfl, mj_in 975 rfl rfl⟩, by decide +kernel, by decide +kernel, by decide +kernel⟩
abbrev m_Jx4a65c_init_da8c8 : mj_M0 := (yJx4a65c_init_da8c8, cJx4a65c_init_da8c8, 1, none, RJx4a65c, true, [])
set_option maxRecDepth 100000 in
theorem ok_Jx4a65c_init_da8c8 : mj_okI m_Jx4a65c_init_da8c8 0 := ⟨⟨mj_in 848 (by decide +kernel) rfl, mj_in 11 (by decide +kernel) rfl, mj_in 849 rfl rfl⟩, ⟨by decide +kernel, by decide +kernel, by decide +kernel⟩, rfl, rfl⟩
abbrev m_Jx4a65c_iterator_32c93 : mj_M0 := (yJx4a65c_iterator_32c93, cJx4a65c_iterator_32c93, 1, (some (.object "java/util/Iterator")), RJx4a65c, false, [])
set_option maxRecDepth 100000 in
theorem ok_Jx4a65c_iterator_32c93 : mj_okV m_Jx4a65c_iterator_32c93 0 := ⟨⟨mj_in 1164 (by decide +kernel) rfl, mj_in 1165 (by decide +kernel) rfl, mj_in 11 (by decide +kernel) rfl, mj_in 1166 rfl rfl⟩, by decide +kernel, by decide +kernel, by decide +kernel⟩
abbrev m_Jx4a65c_size_8abf5 : mj_M0 := (yJx4a65c_size_8abf5, cJx4a65c_size_8abf5, 1, (some .int), RJx4a65c, false, [])
set_option maxRecDepth 100000 in
theorem ok_Jx4a65c_size_8abf5 : mj_okV m_Jx4a65c_size_8abf5 0 := ⟨⟨mj_in 961 (by decide +kernel) rfl, mj_in 962 (by decide +kernel) rfl, mj_in 11 (by decide +kernel) rfl, mj_in 963 rfl rfl⟩, by decide +kernel, by decide +kernel, by decide +kernel⟩
abbrev m_Jxa1e45_init_da8c8 : mj_M0 := (yJxa1e45_init_da8c8, cJxa1e45_init_da8c8, 1, none, RJxa1e45, true, [])
set_option maxRecDepth 100000 in
theorem ok_Jxa1e45_init_da8c8 : mj_okI m_Jxa1e45_init_da8c8 0 := ⟨⟨mj_in 854 (by decide +kernel) rfl, mj_in 9 (by decide +kernel) rfl, mj_in 855 rfl rfl⟩, ⟨by decide +kernel, by decide +kernel, by decide +kernel⟩, rfl, rfl⟩
abbrev m_Jxc12de_init_da8c8 : mj_M0 := (yJxc12de_init_da8c8, cJxc12de_init_da8c8, 1, none, RJxc12de, true, [])
set_option maxRecDepth 100000 in
theorem ok_Jxc12de_init_da8c8 : mj_okI m_Jxc12de_init_da8c8 0 := ⟨⟨mj_in 851 (by decide +kernel) rfl, mj_in 10 (by decide +kernel) rfl, mj_in 852 rfl rfl⟩, ⟨by decide +kernel, by decide +kernel, by decide +kernel⟩, rfl, rfl⟩
abbrev m_L_blast : mj_M0 := (yL_blast, cL_blast, 4, (some .int), RL, false, [(0, 9, 12, 21), (0, 9, 15, 15)])
set_option maxRecDepth 100000 in
theorem ok_L_blast : mj_okH m_L_blast 3 := ⟨⟨mj_in 738 (by decide +kernel) rfl, mj_in 0 (by decide +kernel) rfl, mj_in 739 rfl rfl⟩, by decide +kernel, by decide +kernel, by decide +kernel⟩
abbrev m_L_close : mj_M0 := (yL_close, cL_close, 4, (some .int), RL, false, [(0, 9, 12, 21), (0, 9, 15, 15)])
set_option maxRecDepth 100000 in
theorem ok_L_close : mj_okH m_L_close 3 := ⟨⟨mj_in 802 (by decide +kernel) rfl, mj_in 0 (by decide +kernel) rfl, mj_in 803 rfl rfl⟩, by decide +kernel, by decide +kernel, by decide +kernel⟩
abbrev m_L_crowd : mj_M0 := (yL_crowd, cL_crowd, 4, (some .int), RL, false, [(0, 9, 12, 13)])
set_option maxRecDepth 100000 in
theorem ok_L_crowd : mj_okH m_L_crowd 3 := ⟨⟨mj_in 723 (by decide +kernel) rfl, mj_in 0 (by decide +kernel) rfl, mj_in 724 rfl rfl⟩, by decide +kernel, by decide +kernel, by decide +kernel⟩
abbrev m_L_fill : mj_M0 := (yL_fill, cL_fill, 4, (some .int), RL, false, [(0, 9, 12, 13)])
set_option maxRecDepth 100000 in
theorem ok_L_fill : mj_okH m_L_fill 3 := ⟨⟨mj_in 715 (by decide +kernel) rfl, mj_in 0 (by decide +kernel) rfl, mj_in 716 rfl rfl⟩, by decide +kernel, by decide +kernel, by decide +kernel⟩
abbrev m_L_groom : mj_M0 := (yL_groom, cL_groom, 4, (some .int), RL, false, [(0, 9, 12, 21), (0, 9, 15, 15)])
set_option maxRecDepth 100000 in
theorem ok_L_groom : mj_okH m_L_groom 3 := ⟨⟨mj_in 781 (by decide +kernel) rfl, mj_in 0 (by decide +kernel) rfl, mj_in 782 rfl rfl⟩, by decide +kernel, by decide +kernel, by decide +kernel⟩
abbrev m_L_guns : mj_M0 := (yL_guns, cL_guns, 5, (some .int), RL, false, [(0, 10, 13, 21), (0, 10, 17, 13)])
set_option maxRecDepth 100000 in
theorem ok_L_guns : mj_okH m_L_guns 4 := ⟨⟨mj_in 708 (by decide +kernel) rfl, mj_in 0 (by decide +kernel) rfl, mj_in 709 rfl rfl⟩, by decide +kernel, by decide +kernel, by decide +kernel⟩
abbrev m_L_lift : mj_M0 := (yL_lift, cL_lift, 5, (some .int), RL, false, [(0, 10, 13, 13), (0, 10, 17, 15)])
set_option maxRecDepth 100000 in
theorem ok_L_lift : mj_okH m_L_lift 4 := ⟨⟨mj_in 659 (by decide +kernel) rfl, mj_in 0 (by decide +kernel) rfl, mj_in 660 rfl rfl⟩, by decide +kernel, by decide +kernel, by decide +kernel⟩
abbrev m_L_many : mj_M0 := (yL_many, cL_many, 4, (some .int), RL, false, [(0, 9, 12, 13)])
set_option maxRecDepth 100000 in
theorem ok_L_many : mj_okH m_L_many 3 := ⟨⟨mj_in 822 (by decide +kernel) rfl, mj_in 0 (by decide +kernel) rfl, mj_in 823 rfl rfl⟩, by decide +kernel, by decide +kernel, by decide +kernel⟩
abbrev m_L_ofLayer : mj_M0 := (yL_ofLayer, cL_ofLayer, 6, (some .int), RL, false, [(0, 12, 15, 21), (0, 12, 19, 13)])
set_option maxRecDepth 100000 in
theorem ok_L_ofLayer : mj_okH m_L_ofLayer 5 := ⟨⟨mj_in 814 (by decide +kernel) rfl, mj_in 0 (by decide +kernel) rfl, mj_in 815 rfl rfl⟩, by decide +kernel, by decide +kernel, by decide +kernel⟩
abbrev m_L_ofLift : mj_M0 := (yL_ofLift, cL_ofLift, 5, (some .int), RL, false, [(0, 10, 13, 21), (0, 10, 17, 13)])
set_option maxRecDepth 100000 in
theorem ok_L_ofLift : mj_okH m_L_ofLift 4 := ⟨⟨mj_in 818 (by decide +kernel) rfl, mj_in 0 (by decide +kernel) rfl, mj_in 819 rfl rfl⟩, by decide +kernel, by decide +kernel, by decide +kernel⟩
abbrev m_L_ofRun : mj_M0 := (yL_ofRun, cL_ofRun, 5, (some .int), RL, false, [(0, 10, 13, 21), (0, 10, 17, 13)])
set_option maxRecDepth 100000 in
theorem ok_L_ofRun : mj_okH m_L_ofRun 4 := ⟨⟨mj_in 810 (by decide +kernel) rfl, mj_in 0 (by decide +kernel) rfl, mj_in 811 rfl rfl⟩, by decide +kernel, by decide +kernel, by decide +kernel⟩
abbrev m_L_open : mj_M0 := (yL_open, cL_open, 4, (some .int), RL, false, [(0, 9, 12, 21), (0, 9, 15, 15)])
set_option maxRecDepth 100000 in
theorem ok_L_open : mj_okH m_L_open 3 := ⟨⟨mj_in 795 (by decide +kernel) rfl, mj_in 0 (by decide +kernel) rfl, mj_in 796 rfl rfl⟩, by decide +kernel, by decide +kernel, by decide +kernel⟩
abbrev m_L_pass : mj_M0 := (yL_pass, cL_pass, 9, (some .int), RL, false, [(0, 18, 21, 13), (0, 18, 25, 15)])
set_option maxRecDepth 100000 in
theorem ok_L_pass : mj_okH m_L_pass 8 := ⟨⟨mj_in 730 (by decide +kernel) rfl, mj_in 0 (by decide +kernel) rfl, mj_in 731 rfl rfl⟩, by decide +kernel, by decide +kernel, by decide +kernel⟩
abbrev m_L_release : mj_M0 := (yL_release, cL_release, 4, (some .int), RL, false, [(0, 16, 19, 21), (0, 16, 22, 15)])
set_option maxRecDepth 100000 in
theorem ok_L_release : mj_okH m_L_release 3 := ⟨⟨mj_in 700 (by decide +kernel) rfl, mj_in 0 (by decide +kernel) rfl, mj_in 701 rfl rfl⟩, by decide +kernel, by decide +kernel, by decide +kernel⟩
abbrev m_L_run : mj_M0 := (yL_run, cL_run, 8, (some .int), RL, false, [(0, 16, 19, 21), (0, 16, 23, 13), (0, 16, 27, 15)])
set_option maxRecDepth 100000 in
theorem ok_L_run : mj_okH m_L_run 7 := ⟨⟨mj_in 684 (by decide +kernel) rfl, mj_in 0 (by decide +kernel) rfl, mj_in 685 rfl rfl⟩, by decide +kernel, by decide +kernel, by decide +kernel⟩
abbrev m_L_search : mj_M0 := (yL_search, cL_search, 4, (some .int), RL, false, [(0, 9, 12, 21), (0, 9, 15, 15)])
set_option maxRecDepth 100000 in
theorem ok_L_search : mj_okH m_L_search 3 := ⟨⟨mj_in 752 (by decide +kernel) rfl, mj_in 0 (by decide +kernel) rfl, mj_in 753 rfl rfl⟩, by decide +kernel, by decide +kernel, by decide +kernel⟩
abbrev m_L_sweep : mj_M0 := (yL_sweep, cL_sweep, 4, (some .int), RL, false, [(0, 16, 19, 21), (0, 16, 22, 15)])
set_option maxRecDepth 100000 in
theorem ok_L_sweep : mj_okH m_L_sweep 3 := ⟨⟨mj_in 767 (by decide +kernel) rfl, mj_in 0 (by decide +kernel) rfl, mj_in 768 rfl rfl⟩, by decide +kernel, by decide +kernel, by decide +kernel⟩
abbrev m_L_test : mj_M0 := (yL_test, cL_test, 4, (some .int), RL, false, [(0, 9, 12, 21)])
set_option maxRecDepth 100000 in
theorem ok_L_test : mj_okH m_L_test 3 := ⟨⟨mj_in 760 (by decide +kernel) rfl, mj_in 0 (by decide +kernel) rfl, mj_in 761 rfl rfl⟩, by decide +kernel, by decide +kernel, by decide +kernel⟩
abbrev m_L_turn : mj_M0 := (yL_turn, cL_turn, 5, (some .int), RL, false, [(0, 17, 20, 21)])
set_option maxRecDepth 100000 in
theorem ok_L_turn : mj_okH m_L_turn 4 := ⟨⟨mj_in 693 (by decide +kernel) rfl, mj_in 0 (by decide +kernel) rfl, mj_in 694 rfl rfl⟩, by decide +kernel, by decide +kernel, by decide +kernel⟩
abbrev m_L_winch : mj_M0 := (yL_winch, cL_winch, 5, (some .int), RL, false, [(0, 17, 20, 21), (0, 17, 24, 15)])
set_option maxRecDepth 100000 in
theorem ok_L_winch : mj_okH m_L_winch 4 := ⟨⟨mj_in 774 (by decide +kernel) rfl, mj_in 0 (by decide +kernel) rfl, mj_in 775 rfl rfl⟩, by decide +kernel, by decide +kernel, by decide +kernel⟩
abbrev m_L_wouldMake : mj_M0 := (yL_wouldMake, cL_wouldMake, 7, (some .int), RL, false, [(0, 14, 17, 21), (0, 14, 21, 13)])
set_option maxRecDepth 100000 in
theorem ok_L_wouldMake : mj_okH m_L_wouldMake 6 := ⟨⟨mj_in 830 (by decide +kernel) rfl, mj_in 0 (by decide +kernel) rfl, mj_in 831 rfl rfl⟩, by decide +kernel, by decide +kernel, by decide +kernel⟩
abbrev m_L_wouldRisk : mj_M0 := (yL_wouldRisk, cL_wouldRisk, 7, (some .int), RL, false, [(0, 14, 17, 21), (0, 14, 21, 13)])
set_option maxRecDepth 100000 in
theorem ok_L_wouldRisk : mj_okH m_L_wouldRisk 6 := ⟨⟨mj_in 826 (by decide +kernel) rfl, mj_in 0 (by decide +kernel) rfl, mj_in 827 rfl rfl⟩, by decide +kernel, by decide +kernel, by decide +kernel⟩
abbrev m_X0_become : mj_M0 := (yX0_become, cX0_become, 2, none, RX0, false, [])
set_option maxRecDepth 100000 in
theorem ok_X0_become : mj_okV m_X0_become 1 := ⟨⟨mj_in 523 (by decide +kernel) rfl, mj_in 524 (by decide +kernel) rfl, mj_in 3 (by decide +kernel) rfl, mj_in 525 rfl rfl⟩, by decide +kernel, by decide +kernel, by decide +kernel⟩
abbrev m_X0_init : mj_M0 := (yX0_init, cX0_init, 1, none, RX0, true, [])
set_option maxRecDepth 100000 in
theorem ok_X0_init : mj_okI m_X0_init 0 := ⟨⟨mj_in 43 (by decide +kernel) rfl, mj_in 3 (by decide +kernel) rfl, mj_in 44 rfl rfl⟩, ⟨by decide +kernel, by decide +kernel, by decide +kernel⟩, rfl, rfl⟩
abbrev m_X0_isMoving : mj_M0 := (yX0_isMoving, cX0_isMoving, 1, (some .boolean), RX0, false, [])
set_option maxRecDepth 100000 in
theorem ok_X0_isMoving : mj_okV m_X0_isMoving 0 := ⟨⟨mj_in 382 (by decide +kernel) rfl, mj_in 383 (by decide +kernel) rfl, mj_in 3 (by decide +kernel) rfl, mj_in 384 rfl rfl⟩, by decide +kernel, by decide +kernel, by decide +kernel⟩
abbrev m_X1_bar : mj_M0 := (yX1_bar, cX1_bar, 6, (some .int), RX1, false, [])
set_option maxRecDepth 100000 in
theorem ok_X1_bar : mj_okV m_X1_bar 4 := ⟨⟨mj_in 378 (by decide +kernel) rfl, mj_in 379 (by decide +kernel) rfl, mj_in 2 (by decide +kernel) rfl, mj_in 380 rfl rfl⟩, by decide +kernel, by decide +kernel, by decide +kernel⟩
abbrev m_X1_barNow : mj_M0 := (yX1_barNow, cX1_barNow, 2, (some .int), RX1, false, [])
set_option maxRecDepth 100000 in
theorem ok_X1_barNow : mj_okV m_X1_barNow 1 := ⟨⟨mj_in 370 (by decide +kernel) rfl, mj_in 371 (by decide +kernel) rfl, mj_in 2 (by decide +kernel) rfl, mj_in 372 rfl rfl⟩, by decide +kernel, by decide +kernel, by decide +kernel⟩
abbrev m_X1_become : mj_M0 := (yX1_become, cX1_become, 3, none, RX1, false, [])
set_option maxRecDepth 100000 in
theorem ok_X1_become : mj_okV m_X1_become 1 := ⟨⟨mj_in 519 (by decide +kernel) rfl, mj_in 520 (by decide +kernel) rfl, mj_in 2 (by decide +kernel) rfl, mj_in 521 rfl rfl⟩, by decide +kernel, by decide +kernel, by decide +kernel⟩
abbrev m_X1_carrySkiers : mj_M0 := (yX1_carrySkiers, cX1_carrySkiers, 5, none, RX1, false, [])
set_option maxRecDepth 100000 in
theorem ok_X1_carrySkiers : mj_okV m_X1_carrySkiers 0 := ⟨⟨mj_in 621 (by decide +kernel) rfl, mj_in 622 (by decide +kernel) rfl, mj_in 2 (by decide +kernel) rfl, mj_in 623 rfl rfl⟩, by decide +kernel, by decide +kernel, by decide +kernel⟩
abbrev m_X1_clock : mj_M0 := (yX1_clock, cX1_clock, 1, (some .int), RX1, false, [])
set_option maxRecDepth 100000 in
theorem ok_X1_clock : mj_okV m_X1_clock 0 := ⟨⟨mj_in 542 (by decide +kernel) rfl, mj_in 543 (by decide +kernel) rfl, mj_in 2 (by decide +kernel) rfl, mj_in 544 rfl rfl⟩, by decide +kernel, by decide +kernel, by decide +kernel⟩
abbrev m_X1_depthByArea : mj_M0 := (yX1_depthByArea, cX1_depthByArea, 3, (some .int), RX1, false, [])
set_option maxRecDepth 100000 in
theorem ok_X1_depthByArea : mj_okV m_X1_depthByArea 0 := ⟨⟨mj_in 312 (by decide +kernel) rfl, mj_in 313 (by decide +kernel) rfl, mj_in 2 (by decide +kernel) rfl, mj_in 314 rfl rfl⟩, by decide +kernel, by decide +kernel, by decide +kernel⟩
abbrev m_X1_holdLifts : mj_M0 := (yX1_holdLifts, cX1_holdLifts, 3, none, RX1, false, [])
set_option maxRecDepth 100000 in
theorem ok_X1_holdLifts : mj_okV m_X1_holdLifts 1 := ⟨⟨mj_in 617 (by decide +kernel) rfl, mj_in 618 (by decide +kernel) rfl, mj_in 2 (by decide +kernel) rfl, mj_in 619 rfl rfl⟩, by decide +kernel, by decide +kernel, by decide +kernel⟩
abbrev m_X1_init : mj_M0 := (yX1_init, cX1_init, 2, none, RX1, true, [])
set_option maxRecDepth 100000 in
theorem ok_X1_init : mj_okI m_X1_init 0 := ⟨⟨mj_in 36 (by decide +kernel) rfl, mj_in 2 (by decide +kernel) rfl, mj_in 37 rfl rfl⟩, ⟨by decide +kernel, by decide +kernel, by decide +kernel⟩, rfl, rfl⟩
abbrev m_X1_isTested : mj_M0 := (yX1_isTested, cX1_isTested, 2, (some .boolean), RX1, false, [])
set_option maxRecDepth 100000 in
theorem ok_X1_isTested : mj_okV m_X1_isTested 1 := ⟨⟨mj_in 374 (by decide +kernel) rfl, mj_in 375 (by decide +kernel) rfl, mj_in 2 (by decide +kernel) rfl, mj_in 376 rfl rfl⟩, by decide +kernel, by decide +kernel, by decide +kernel⟩
abbrev m_X1_makeSnow : mj_M0 := (yX1_makeSnow, cX1_makeSnow, 5, none, RX1, false, [])
set_option maxRecDepth 100000 in
theorem ok_X1_makeSnow : mj_okV m_X1_makeSnow 2 := ⟨⟨mj_in 599 (by decide +kernel) rfl, mj_in 600 (by decide +kernel) rfl, mj_in 2 (by decide +kernel) rfl, mj_in 601 rfl rfl⟩, by decide +kernel, by decide +kernel, by decide +kernel⟩
abbrev m_X1_openRuns : mj_M0 := (yX1_openRuns, cX1_openRuns, 3, (some .int), RX1, false, [])
set_option maxRecDepth 100000 in
theorem ok_X1_openRuns : mj_okV m_X1_openRuns 0 := ⟨⟨mj_in 468 (by decide +kernel) rfl, mj_in 469 (by decide +kernel) rfl, mj_in 2 (by decide +kernel) rfl, mj_in 470 rfl rfl⟩, by decide +kernel, by decide +kernel, by decide +kernel⟩
abbrev m_X1_openRunsOf : mj_M0 := (yX1_openRunsOf, cX1_openRunsOf, 4, (some .int), RX1, false, [])
set_option maxRecDepth 100000 in
theorem ok_X1_openRunsOf : mj_okV m_X1_openRunsOf 1 := ⟨⟨mj_in 625 (by decide +kernel) rfl, mj_in 626 (by decide +kernel) rfl, mj_in 2 (by decide +kernel) rfl, mj_in 627 rfl rfl⟩, by decide +kernel, by decide +kernel, by decide +kernel⟩
abbrev m_X1_passHour : mj_M0 := (yX1_passHour, cX1_passHour, 5, none, RX1, false, [])
set_option maxRecDepth 100000 in
theorem ok_X1_passHour : mj_okV m_X1_passHour 1 := ⟨⟨mj_in 538 (by decide +kernel) rfl, mj_in 539 (by decide +kernel) rfl, mj_in 2 (by decide +kernel) rfl, mj_in 540 rfl rfl⟩, by decide +kernel, by decide +kernel, by decide +kernel⟩
abbrev m_X1_removeGuns : mj_M0 := (yX1_removeGuns, cX1_removeGuns, 2, none, RX1, false, [])
set_option maxRecDepth 100000 in
theorem ok_X1_removeGuns : mj_okV m_X1_removeGuns 0 := ⟨⟨mj_in 643 (by decide +kernel) rfl, mj_in 644 (by decide +kernel) rfl, mj_in 2 (by decide +kernel) rfl, mj_in 645 rfl rfl⟩, by decide +kernel, by decide +kernel, by decide +kernel⟩
abbrev m_X1_shareOut : mj_M0 := (yX1_shareOut, cX1_shareOut, 6, none, RX1, false, [])
set_option maxRecDepth 100000 in
theorem ok_X1_shareOut : mj_okV m_X1_shareOut 3 := ⟨⟨mj_in 629 (by decide +kernel) rfl, mj_in 630 (by decide +kernel) rfl, mj_in 2 (by decide +kernel) rfl, mj_in 631 rfl rfl⟩, by decide +kernel, by decide +kernel, by decide +kernel⟩
abbrev m_X1_skiOn : mj_M0 := (yX1_skiOn, cX1_skiOn, 6, none, RX1, false, [])
set_option maxRecDepth 100000 in
theorem ok_X1_skiOn : mj_okV m_X1_skiOn 2 := ⟨⟨mj_in 633 (by decide +kernel) rfl, mj_in 634 (by decide +kernel) rfl, mj_in 2 (by decide +kernel) rfl, mj_in 635 rfl rfl⟩, by decide +kernel, by decide +kernel, by decide +kernel⟩
abbrev m_X1_slideOn : mj_M0 := (yX1_slideOn, cX1_slideOn, 4, (some .int), RX1, false, [])
set_option maxRecDepth 100000 in
theorem ok_X1_slideOn : mj_okV m_X1_slideOn 1 := ⟨⟨mj_in 607 (by decide +kernel) rfl, mj_in 608 (by decide +kernel) rfl, mj_in 2 (by decide +kernel) rfl, mj_in 609 rfl rfl⟩, by decide +kernel, by decide +kernel, by decide +kernel⟩
abbrev m_X1_wholeArea : mj_M0 := (yX1_wholeArea, cX1_wholeArea, 3, (some .int), RX1, false, [])
set_option maxRecDepth 100000 in
theorem ok_X1_wholeArea : mj_okV m_X1_wholeArea 0 := ⟨⟨mj_in 308 (by decide +kernel) rfl, mj_in 309 (by decide +kernel) rfl, mj_in 2 (by decide +kernel) rfl, mj_in 310 rfl rfl⟩, by decide +kernel, by decide +kernel, by decide +kernel⟩
abbrev m_X1_wouldTell : mj_M0 := (yX1_wouldTell, cX1_wouldTell, 4, (some .int), RX1, false, [])
set_option maxRecDepth 100000 in
theorem ok_X1_wouldTell : mj_okV m_X1_wouldTell 2 := ⟨⟨mj_in 364 (by decide +kernel) rfl, mj_in 365 (by decide +kernel) rfl, mj_in 2 (by decide +kernel) rfl, mj_in 366 rfl rfl⟩, by decide +kernel, by decide +kernel, by decide +kernel⟩
abbrev m_X2_become : mj_M0 := (yX2_become, cX2_become, 2, none, RX2, false, [])
set_option maxRecDepth 100000 in
theorem ok_X2_become : mj_okV m_X2_become 1 := ⟨⟨mj_in 527 (by decide +kernel) rfl, mj_in 528 (by decide +kernel) rfl, mj_in 4 (by decide +kernel) rfl, mj_in 529 rfl rfl⟩, by decide +kernel, by decide +kernel, by decide +kernel⟩
abbrev m_X2_init : mj_M0 := (yX2_init, cX2_init, 1, none, RX2, true, [])
set_option maxRecDepth 100000 in
theorem ok_X2_init : mj_okI m_X2_init 0 := ⟨⟨mj_in 75 (by decide +kernel) rfl, mj_in 4 (by decide +kernel) rfl, mj_in 76 rfl rfl⟩, ⟨by decide +kernel, by decide +kernel, by decide +kernel⟩, rfl, rfl⟩
abbrev m_X2_risk : mj_M0 := (yX2_risk, cX2_risk, 1, (some .int), RX2, false, [])
set_option maxRecDepth 100000 in
theorem ok_X2_risk : mj_okV m_X2_risk 0 := ⟨⟨mj_in 331 (by decide +kernel) rfl, mj_in 332 (by decide +kernel) rfl, mj_in 4 (by decide +kernel) rfl, mj_in 333 rfl rfl⟩, by decide +kernel, by decide +kernel, by decide +kernel⟩
abbrev m_X2_shear : mj_M0 := (yX2_shear, cX2_shear, 1, (some .int), RX2, false, [])
set_option maxRecDepth 100000 in
theorem ok_X2_shear : mj_okV m_X2_shear 0 := ⟨⟨mj_in 350 (by decide +kernel) rfl, mj_in 351 (by decide +kernel) rfl, mj_in 4 (by decide +kernel) rfl, mj_in 352 rfl rfl⟩, by decide +kernel, by decide +kernel, by decide +kernel⟩
abbrev m_X2_sizeFrom : mj_M0 := (yX2_sizeFrom, cX2_sizeFrom, 2, (some .int), RX2, false, [])
set_option maxRecDepth 100000 in
theorem ok_X2_sizeFrom : mj_okV m_X2_sizeFrom 1 := ⟨⟨mj_in 355 (by decide +kernel) rfl, mj_in 356 (by decide +kernel) rfl, mj_in 4 (by decide +kernel) rfl, mj_in 357 rfl rfl⟩, by decide +kernel, by decide +kernel, by decide +kernel⟩
abbrev m_X2_weatherSnow : mj_M0 := (yX2_weatherSnow, cX2_weatherSnow, 5, none, RX2, false, [])
set_option maxRecDepth 100000 in
theorem ok_X2_weatherSnow : mj_okV m_X2_weatherSnow 3 := ⟨⟨mj_in 546 (by decide +kernel) rfl, mj_in 547 (by decide +kernel) rfl, mj_in 4 (by decide +kernel) rfl, mj_in 548 rfl rfl⟩, by decide +kernel, by decide +kernel, by decide +kernel⟩
abbrev m_X3_become : mj_M0 := (yX3_become, cX3_become, 2, none, RX3, false, [])
set_option maxRecDepth 100000 in
theorem ok_X3_become : mj_okV m_X3_become 1 := ⟨⟨mj_in 531 (by decide +kernel) rfl, mj_in 532 (by decide +kernel) rfl, mj_in 5 (by decide +kernel) rfl, mj_in 533 rfl rfl⟩, by decide +kernel, by decide +kernel, by decide +kernel⟩
abbrev m_X3_changeTop : mj_M0 := (yX3_changeTop, cX3_changeTop, 3, none, RX3, false, [])
set_option maxRecDepth 100000 in
theorem ok_X3_changeTop : mj_okV m_X3_changeTop 2 := ⟨⟨mj_in 587 (by decide +kernel) rfl, mj_in 588 (by decide +kernel) rfl, mj_in 5 (by decide +kernel) rfl, mj_in 589 rfl rfl⟩, by decide +kernel, by decide +kernel, by decide +kernel⟩
abbrev m_X3_comeDown : mj_M0 := (yX3_comeDown, cX3_comeDown, 4, none, RX3, false, [])
set_option maxRecDepth 100000 in
theorem ok_X3_comeDown : mj_okV m_X3_comeDown 2 := ⟨⟨mj_in 550 (by decide +kernel) rfl, mj_in 551 (by decide +kernel) rfl, mj_in 5 (by decide +kernel) rfl, mj_in 552 rfl rfl⟩, by decide +kernel, by decide +kernel, by decide +kernel⟩
abbrev m_X3_depthFrom : mj_M0 := (yX3_depthFrom, cX3_depthFrom, 4, (some .int), RX3, false, [])
set_option maxRecDepth 100000 in
theorem ok_X3_depthFrom : mj_okV m_X3_depthFrom 1 := ⟨⟨mj_in 320 (by decide +kernel) rfl, mj_in 321 (by decide +kernel) rfl, mj_in 5 (by decide +kernel) rfl, mj_in 322 rfl rfl⟩, by decide +kernel, by decide +kernel, by decide +kernel⟩
abbrev m_X3_drift : mj_M0 := (yX3_drift, cX3_drift, 4, none, RX3, false, [])
set_option maxRecDepth 100000 in
theorem ok_X3_drift : mj_okV m_X3_drift 3 := ⟨⟨mj_in 578 (by decide +kernel) rfl, mj_in 579 (by decide +kernel) rfl, mj_in 5 (by decide +kernel) rfl, mj_in 580 rfl rfl⟩, by decide +kernel, by decide +kernel, by decide +kernel⟩
abbrev m_X3_dropFrom : mj_M0 := (yX3_dropFrom, cX3_dropFrom, 2, none, RX3, false, [])
set_option maxRecDepth 100000 in
theorem ok_X3_dropFrom : mj_okV m_X3_dropFrom 1 := ⟨⟨mj_in 613 (by decide +kernel) rfl, mj_in 614 (by decide +kernel) rfl, mj_in 5 (by decide +kernel) rfl, mj_in 615 rfl rfl⟩, by decide +kernel, by decide +kernel, by decide +kernel⟩
abbrev m_X3_freeze : mj_M0 := (yX3_freeze, cX3_freeze, 1, none, RX3, false, [])
set_option maxRecDepth 100000 in
theorem ok_X3_freeze : mj_okV m_X3_freeze 0 := ⟨⟨mj_in 583 (by decide +kernel) rfl, mj_in 584 (by decide +kernel) rfl, mj_in 5 (by decide +kernel) rfl, mj_in 585 rfl rfl⟩, by decide +kernel, by decide +kernel, by decide +kernel⟩
abbrev m_X3_growWeak : mj_M0 := (yX3_growWeak, cX3_growWeak, 1, none, RX3, false, [])
set_option maxRecDepth 100000 in
theorem ok_X3_growWeak : mj_okV m_X3_growWeak 0 := ⟨⟨mj_in 591 (by decide +kernel) rfl, mj_in 592 (by decide +kernel) rfl, mj_in 5 (by decide +kernel) rfl, mj_in 593 rfl rfl⟩, by decide +kernel, by decide +kernel, by decide +kernel⟩
abbrev m_X3_init : mj_M0 := (yX3_init, cX3_init, 1, none, RX3, true, [])
set_option maxRecDepth 100000 in
theorem ok_X3_init : mj_okI m_X3_init 0 := ⟨⟨mj_in 81 (by decide +kernel) rfl, mj_in 5 (by decide +kernel) rfl, mj_in 82 rfl rfl⟩, ⟨by decide +kernel, by decide +kernel, by decide +kernel⟩, rfl, rfl⟩
abbrev m_X3_joinLowest : mj_M0 := (yX3_joinLowest, cX3_joinLowest, 2, none, RX3, false, [])
set_option maxRecDepth 100000 in
theorem ok_X3_joinLowest : mj_okV m_X3_joinLowest 0 := ⟨⟨mj_in 566 (by decide +kernel) rfl, mj_in 567 (by decide +kernel) rfl, mj_in 5 (by decide +kernel) rfl, mj_in 568 rfl rfl⟩, by decide +kernel, by decide +kernel, by decide +kernel⟩
abbrev m_X3_lay : mj_M0 := (yX3_lay, cX3_lay, 4, none, RX3, false, [])
set_option maxRecDepth 100000 in
theorem ok_X3_lay : mj_okV m_X3_lay 3 := ⟨⟨mj_in 562 (by decide +kernel) rfl, mj_in 563 (by decide +kernel) rfl, mj_in 5 (by decide +kernel) rfl, mj_in 564 rfl rfl⟩, by decide +kernel, by decide +kernel, by decide +kernel⟩
abbrev m_X3_melt : mj_M0 := (yX3_melt, cX3_melt, 2, none, RX3, false, [])
set_option maxRecDepth 100000 in
theorem ok_X3_melt : mj_okV m_X3_melt 1 := ⟨⟨mj_in 570 (by decide +kernel) rfl, mj_in 571 (by decide +kernel) rfl, mj_in 5 (by decide +kernel) rfl, mj_in 572 rfl rfl⟩, by decide +kernel, by decide +kernel, by decide +kernel⟩
abbrev m_X3_pressTop : mj_M0 := (yX3_pressTop, cX3_pressTop, 3, (some .int), RX3, false, [])
set_option maxRecDepth 100000 in
theorem ok_X3_pressTop : mj_okV m_X3_pressTop 0 := ⟨⟨mj_in 791 (by decide +kernel) rfl, mj_in 792 (by decide +kernel) rfl, mj_in 5 (by decide +kernel) rfl, mj_in 793 rfl rfl⟩, by decide +kernel, by decide +kernel, by decide +kernel⟩
abbrev m_X3_risk : mj_M0 := (yX3_risk, cX3_risk, 3, (some .int), RX3, false, [])
set_option maxRecDepth 100000 in
theorem ok_X3_risk : mj_okV m_X3_risk 1 := ⟨⟨mj_in 335 (by decide +kernel) rfl, mj_in 336 (by decide +kernel) rfl, mj_in 5 (by decide +kernel) rfl, mj_in 337 rfl rfl⟩, by decide +kernel, by decide +kernel, by decide +kernel⟩
abbrev m_X3_settle : mj_M0 := (yX3_settle, cX3_settle, 4, none, RX3, false, [])
set_option maxRecDepth 100000 in
theorem ok_X3_settle : mj_okV m_X3_settle 1 := ⟨⟨mj_in 595 (by decide +kernel) rfl, mj_in 596 (by decide +kernel) rfl, mj_in 5 (by decide +kernel) rfl, mj_in 597 rfl rfl⟩, by decide +kernel, by decide +kernel, by decide +kernel⟩
abbrev m_X3_shear : mj_M0 := (yX3_shear, cX3_shear, 7, (some .int), RX3, false, [])
set_option maxRecDepth 100000 in
theorem ok_X3_shear : mj_okV m_X3_shear 1 := ⟨⟨mj_in 339 (by decide +kernel) rfl, mj_in 340 (by decide +kernel) rfl, mj_in 5 (by decide +kernel) rfl, mj_in 341 rfl rfl⟩, by decide +kernel, by decide +kernel, by decide +kernel⟩
abbrev m_X3_stress : mj_M0 := (yX3_stress, cX3_stress, 6, (some .int), RX3, false, [])
set_option maxRecDepth 100000 in
theorem ok_X3_stress : mj_okV m_X3_stress 3 := ⟨⟨mj_in 343 (by decide +kernel) rfl, mj_in 344 (by decide +kernel) rfl, mj_in 5 (by decide +kernel) rfl, mj_in 345 rfl rfl⟩, by decide +kernel, by decide +kernel, by decide +kernel⟩
abbrev m_X3_thicken : mj_M0 := (yX3_thicken, cX3_thicken, 2, none, RX3, false, [])
set_option maxRecDepth 100000 in
theorem ok_X3_thicken : mj_okV m_X3_thicken 1 := ⟨⟨mj_in 558 (by decide +kernel) rfl, mj_in 559 (by decide +kernel) rfl, mj_in 5 (by decide +kernel) rfl, mj_in 560 rfl rfl⟩, by decide +kernel, by decide +kernel, by decide +kernel⟩
abbrev m_X3_thin : mj_M0 := (yX3_thin, cX3_thin, 2, none, RX3, false, [])
set_option maxRecDepth 100000 in
theorem ok_X3_thin : mj_okV m_X3_thin 1 := ⟨⟨mj_in 574 (by decide +kernel) rfl, mj_in 575 (by decide +kernel) rfl, mj_in 5 (by decide +kernel) rfl, mj_in 576 rfl rfl⟩, by decide +kernel, by decide +kernel, by decide +kernel⟩
abbrev m_X3_topIs : mj_M0 := (yX3_topIs, cX3_topIs, 2, (some .boolean), RX3, false, [])
set_option maxRecDepth 100000 in
theorem ok_X3_topIs : mj_okV m_X3_topIs 1 := ⟨⟨mj_in 554 (by decide +kernel) rfl, mj_in 555 (by decide +kernel) rfl, mj_in 5 (by decide +kernel) rfl, mj_in 556 rfl rfl⟩, by decide +kernel, by decide +kernel, by decide +kernel⟩
abbrev m_X3_wholeDepth : mj_M0 := (yX3_wholeDepth, cX3_wholeDepth, 1, (some .int), RX3, false, [])
set_option maxRecDepth 100000 in
theorem ok_X3_wholeDepth : mj_okV m_X3_wholeDepth 0 := ⟨⟨mj_in 316 (by decide +kernel) rfl, mj_in 317 (by decide +kernel) rfl, mj_in 5 (by decide +kernel) rfl, mj_in 318 rfl rfl⟩, by decide +kernel, by decide +kernel, by decide +kernel⟩
abbrev m_X4_init : mj_M0 := (yX4_init, cX4_init, 1, none, RX4, true, [])
set_option maxRecDepth 100000 in
theorem ok_X4_init : mj_okI m_X4_init 0 := ⟨⟨mj_in 265 (by decide +kernel) rfl, mj_in 6 (by decide +kernel) rfl, mj_in 266 rfl rfl⟩, ⟨by decide +kernel, by decide +kernel, by decide +kernel⟩, rfl, rfl⟩
abbrev m_X4_tell : mj_M0 := (yX4_tell, cX4_tell, 6, none, RX4, false, [])
set_option maxRecDepth 100000 in
theorem ok_X4_tell : mj_okV m_X4_tell 5 := ⟨⟨mj_in 515 (by decide +kernel) rfl, mj_in 516 (by decide +kernel) rfl, mj_in 6 (by decide +kernel) rfl, mj_in 517 rfl rfl⟩, by decide +kernel, by decide +kernel, by decide +kernel⟩
abbrev m_X5_blast : mj_M0 := (yX5_blast, cX5_blast, 3, (some .int), RX5, false, [])
set_option maxRecDepth 100000 in
theorem ok_X5_blast : mj_okV m_X5_blast 1 := ⟨⟨mj_in 741 (by decide +kernel) rfl, mj_in 742 (by decide +kernel) rfl, mj_in 1 (by decide +kernel) rfl, mj_in 743 rfl rfl⟩, by decide +kernel, by decide +kernel, by decide +kernel⟩
abbrev m_X5_close : mj_M0 := (yX5_close, cX5_close, 3, (some .int), RX5, false, [])
set_option maxRecDepth 100000 in
theorem ok_X5_close : mj_okV m_X5_close 1 := ⟨⟨mj_in 805 (by decide +kernel) rfl, mj_in 806 (by decide +kernel) rfl, mj_in 1 (by decide +kernel) rfl, mj_in 807 rfl rfl⟩, by decide +kernel, by decide +kernel, by decide +kernel⟩
abbrev m_X5_couldOpen : mj_M0 := (yX5_couldOpen, cX5_couldOpen, 6, (some .int), RX5, false, [])
set_option maxRecDepth 100000 in
theorem ok_X5_couldOpen : mj_okV m_X5_couldOpen 0 := ⟨⟨mj_in 360 (by decide +kernel) rfl, mj_in 361 (by decide +kernel) rfl, mj_in 1 (by decide +kernel) rfl, mj_in 362 rfl rfl⟩, by decide +kernel, by decide +kernel, by decide +kernel⟩
abbrev m_X5_crowd : mj_M0 := (yX5_crowd, cX5_crowd, 3, (some .int), RX5, false, [])
set_option maxRecDepth 100000 in
theorem ok_X5_crowd : mj_okV m_X5_crowd 1 := ⟨⟨mj_in 726 (by decide +kernel) rfl, mj_in 727 (by decide +kernel) rfl, mj_in 1 (by decide +kernel) rfl, mj_in 728 rfl rfl⟩, by decide +kernel, by decide +kernel, by decide +kernel⟩
abbrev m_X5_digest : mj_M0 := (yX5_digest, cX5_digest, 5, (some .long), RX5, false, [])
set_option maxRecDepth 100000 in
theorem ok_X5_digest : mj_okV m_X5_digest 0 := ⟨⟨mj_in 387 (by decide +kernel) rfl, mj_in 388 (by decide +kernel) rfl, mj_in 1 (by decide +kernel) rfl, mj_in 389 rfl rfl⟩, by decide +kernel, by decide +kernel, by decide +kernel⟩
abbrev m_X5_digestLayers : mj_M0 := (yX5_digestLayers, cX5_digestLayers, 9, (some .long), RX5, false, [])
set_option maxRecDepth 100000 in
theorem ok_X5_digestLayers : mj_okV m_X5_digestLayers 2 := ⟨⟨mj_in 503 (by decide +kernel) rfl, mj_ip 2 (by decide +kernel) rfl, mj_in 1 (by decide +kernel) rfl, mj_in 504 rfl rfl⟩, by decide +kernel, by decide +kernel, by decide +kernel⟩
abbrev m_X5_fill : mj_M0 := (yX5_fill, cX5_fill, 2, (some .int), RX5, false, [])
set_option maxRecDepth 100000 in
theorem ok_X5_fill : mj_okV m_X5_fill 1 := ⟨⟨mj_in 718 (by decide +kernel) rfl, mj_in 719 (by decide +kernel) rfl, mj_in 1 (by decide +kernel) rfl, mj_in 720 rfl rfl⟩, by decide +kernel, by decide +kernel, by decide +kernel⟩
abbrev m_X5_groom : mj_M0 := (yX5_groom, cX5_groom, 4, (some .int), RX5, false, [])
set_option maxRecDepth 100000 in
theorem ok_X5_groom : mj_okV m_X5_groom 1 := ⟨⟨mj_in 784 (by decide +kernel) rfl, mj_in 785 (by decide +kernel) rfl, mj_in 1 (by decide +kernel) rfl, mj_in 786 rfl rfl⟩, by decide +kernel, by decide +kernel, by decide +kernel⟩
abbrev m_X5_guns : mj_M0 := (yX5_guns, cX5_guns, 4, (some .int), RX5, false, [])
set_option maxRecDepth 100000 in
theorem ok_X5_guns : mj_okV m_X5_guns 2 := ⟨⟨mj_in 711 (by decide +kernel) rfl, mj_in 712 (by decide +kernel) rfl, mj_in 1 (by decide +kernel) rfl, mj_in 713 rfl rfl⟩, by decide +kernel, by decide +kernel, by decide +kernel⟩
abbrev m_X5_init : mj_M0 := (yX5_init, cX5_init, 1, none, RX5, true, [])
set_option maxRecDepth 100000 in
theorem ok_X5_init : mj_okI m_X5_init 0 := ⟨⟨mj_in 28 (by decide +kernel) rfl, mj_in 1 (by decide +kernel) rfl, mj_in 29 rfl rfl⟩, ⟨by decide +kernel, by decide +kernel, by decide +kernel⟩, rfl, rfl⟩
abbrev m_X5_lift : mj_M0 := (yX5_lift, cX5_lift, 4, (some .int), RX5, false, [])
set_option maxRecDepth 100000 in
theorem ok_X5_lift : mj_okV m_X5_lift 2 := ⟨⟨mj_in 664 (by decide +kernel) rfl, mj_in 665 (by decide +kernel) rfl, mj_in 1 (by decide +kernel) rfl, mj_in 666 rfl rfl⟩, by decide +kernel, by decide +kernel, by decide +kernel⟩
abbrev m_X5_many : mj_M0 := (yX5_many, cX5_many, 2, (some .int), RX5, false, [])
set_option maxRecDepth 100000 in
theorem ok_X5_many : mj_okV m_X5_many 1 := ⟨⟨mj_in 393 (by decide +kernel) rfl, mj_in 394 (by decide +kernel) rfl, mj_in 1 (by decide +kernel) rfl, mj_in 395 rfl rfl⟩, by decide +kernel, by decide +kernel, by decide +kernel⟩
abbrev m_X5_meanDepth : mj_M0 := (yX5_meanDepth, cX5_meanDepth, 2, (some .double), RX5, false, [])
set_option maxRecDepth 100000 in
theorem ok_X5_meanDepth : mj_okV m_X5_meanDepth 0 := ⟨⟨mj_in 304 (by decide +kernel) rfl, mj_in 305 (by decide +kernel) rfl, mj_in 1 (by decide +kernel) rfl, mj_in 306 rfl rfl⟩, by decide +kernel, by decide +kernel, by decide +kernel⟩
abbrev m_X5_nextBlast : mj_M0 := (yX5_nextBlast, cX5_nextBlast, 7, (some .int), RX5, false, [])
set_option maxRecDepth 100000 in
theorem ok_X5_nextBlast : mj_okV m_X5_nextBlast 0 := ⟨⟨mj_in 327 (by decide +kernel) rfl, mj_in 328 (by decide +kernel) rfl, mj_in 1 (by decide +kernel) rfl, mj_in 329 rfl rfl⟩, by decide +kernel, by decide +kernel, by decide +kernel⟩
abbrev m_X5_ofLayer : mj_M0 := (yX5_ofLayer, cX5_ofLayer, 5, (some .int), RX5, false, [])
set_option maxRecDepth 100000 in
theorem ok_X5_ofLayer : mj_okV m_X5_ofLayer 3 := ⟨⟨mj_in 506 (by decide +kernel) rfl, mj_in 507 (by decide +kernel) rfl, mj_in 1 (by decide +kernel) rfl, mj_in 508 rfl rfl⟩, by decide +kernel, by decide +kernel, by decide +kernel⟩
abbrev m_X5_ofLift : mj_M0 := (yX5_ofLift, cX5_ofLift, 4, (some .int), RX5, false, [])
set_option maxRecDepth 100000 in
theorem ok_X5_ofLift : mj_okV m_X5_ofLift 2 := ⟨⟨mj_in 647 (by decide +kernel) rfl, mj_in 648 (by decide +kernel) rfl, mj_in 1 (by decide +kernel) rfl, mj_in 649 rfl rfl⟩, by decide +kernel, by decide +kernel, by decide +kernel⟩
abbrev m_X5_ofRun : mj_M0 := (yX5_ofRun, cX5_ofRun, 4, (some .int), RX5, false, [])
set_option maxRecDepth 100000 in
theorem ok_X5_ofRun : mj_okV m_X5_ofRun 2 := ⟨⟨mj_in 475 (by decide +kernel) rfl, mj_in 476 (by decide +kernel) rfl, mj_in 1 (by decide +kernel) rfl, mj_in 477 rfl rfl⟩, by decide +kernel, by decide +kernel, by decide +kernel⟩
abbrev m_X5_oneIf : mj_M0 := (yX5_oneIf, cX5_oneIf, 1, (some .int), RX5, false, [])
set_option maxRecDepth 100000 in
theorem ok_X5_oneIf : mj_okS m_X5_oneIf 1 := ⟨⟨mj_in 472 (by decide +kernel) rfl, mj_in 1 (by decide +kernel) rfl, mj_in 473 rfl rfl⟩, by decide +kernel, by decide +kernel, by decide +kernel⟩
abbrev m_X5_open : mj_M0 := (yX5_open, cX5_open, 4, (some .int), RX5, false, [])
set_option maxRecDepth 100000 in
theorem ok_X5_open : mj_okV m_X5_open 1 := ⟨⟨mj_in 798 (by decide +kernel) rfl, mj_in 799 (by decide +kernel) rfl, mj_in 1 (by decide +kernel) rfl, mj_in 800 rfl rfl⟩, by decide +kernel, by decide +kernel, by decide +kernel⟩
abbrev m_X5_pass : mj_M0 := (yX5_pass, cX5_pass, 9, (some .int), RX5, false, [])
set_option maxRecDepth 100000 in
theorem ok_X5_pass : mj_okV m_X5_pass 6 := ⟨⟨mj_in 733 (by decide +kernel) rfl, mj_in 734 (by decide +kernel) rfl, mj_in 1 (by decide +kernel) rfl, mj_in 735 rfl rfl⟩, by decide +kernel, by decide +kernel, by decide +kernel⟩
abbrev m_X5_release : mj_M0 := (yX5_release, cX5_release, 4, (some .boolean), RX5, false, [])
set_option maxRecDepth 100000 in
theorem ok_X5_release : mj_okV m_X5_release 1 := ⟨⟨mj_in 703 (by decide +kernel) rfl, mj_in 704 (by decide +kernel) rfl, mj_in 1 (by decide +kernel) rfl, mj_in 705 rfl rfl⟩, by decide +kernel, by decide +kernel, by decide +kernel⟩
abbrev m_X5_requireClosed : mj_M0 := (yX5_requireClosed, cX5_requireClosed, 2, none, RX5, false, [])
set_option maxRecDepth 100000 in
theorem ok_X5_requireClosed : mj_okV m_X5_requireClosed 1 := ⟨⟨mj_in 746 (by decide +kernel) rfl, mj_ip 4 (by decide +kernel) rfl, mj_in 1 (by decide +kernel) rfl, mj_in 747 rfl rfl⟩, by decide +kernel, by decide +kernel, by decide +kernel⟩
abbrev m_X5_requireLift : mj_M0 := (yX5_requireLift, cX5_requireLift, 2, none, RX5, false, [])
set_option maxRecDepth 100000 in
theorem ok_X5_requireLift : mj_okV m_X5_requireLift 1 := ⟨⟨mj_in 652 (by decide +kernel) rfl, mj_ip 3 (by decide +kernel) rfl, mj_in 1 (by decide +kernel) rfl, mj_in 653 rfl rfl⟩, by decide +kernel, by decide +kernel, by decide +kernel⟩
abbrev m_X5_requireRun : mj_M0 := (yX5_requireRun, cX5_requireRun, 2, none, RX5, false, [])
set_option maxRecDepth 100000 in
theorem ok_X5_requireRun : mj_okV m_X5_requireRun 1 := ⟨⟨mj_in 480 (by decide +kernel) rfl, mj_ip 1 (by decide +kernel) rfl, mj_in 1 (by decide +kernel) rfl, mj_in 481 rfl rfl⟩, by decide +kernel, by decide +kernel, by decide +kernel⟩
abbrev m_X5_requireWithin : mj_M0 := (yX5_requireWithin, cX5_requireWithin, 3, none, RX5, false, [])
set_option maxRecDepth 100000 in
theorem ok_X5_requireWithin : mj_okS m_X5_requireWithin 3 := ⟨⟨mj_in 397 (by decide +kernel) rfl, mj_in 1 (by decide +kernel) rfl, mj_in 398 rfl rfl⟩, by decide +kernel, by decide +kernel, by decide +kernel⟩
abbrev m_X5_run : mj_M0 := (yX5_run, cX5_run, 8, (some .int), RX5, false, [])
set_option maxRecDepth 100000 in
theorem ok_X5_run : mj_okV m_X5_run 5 := ⟨⟨mj_in 688 (by decide +kernel) rfl, mj_in 689 (by decide +kernel) rfl, mj_in 1 (by decide +kernel) rfl, mj_in 690 rfl rfl⟩, by decide +kernel, by decide +kernel, by decide +kernel⟩
abbrev m_X5_search : mj_M0 := (yX5_search, cX5_search, 3, (some .int), RX5, false, [])
set_option maxRecDepth 100000 in
theorem ok_X5_search : mj_okV m_X5_search 1 := ⟨⟨mj_in 755 (by decide +kernel) rfl, mj_in 756 (by decide +kernel) rfl, mj_in 1 (by decide +kernel) rfl, mj_in 757 rfl rfl⟩, by decide +kernel, by decide +kernel, by decide +kernel⟩
abbrev m_X5_sweep : mj_M0 := (yX5_sweep, cX5_sweep, 3, (some .boolean), RX5, false, [])
set_option maxRecDepth 100000 in
theorem ok_X5_sweep : mj_okV m_X5_sweep 1 := ⟨⟨mj_in 770 (by decide +kernel) rfl, mj_in 771 (by decide +kernel) rfl, mj_in 1 (by decide +kernel) rfl, mj_in 772 rfl rfl⟩, by decide +kernel, by decide +kernel, by decide +kernel⟩
abbrev m_X5_test : mj_M0 := (yX5_test, cX5_test, 3, (some .int), RX5, false, [])
set_option maxRecDepth 100000 in
theorem ok_X5_test : mj_okV m_X5_test 1 := ⟨⟨mj_in 763 (by decide +kernel) rfl, mj_in 764 (by decide +kernel) rfl, mj_in 1 (by decide +kernel) rfl, mj_in 765 rfl rfl⟩, by decide +kernel, by decide +kernel, by decide +kernel⟩
abbrev m_X5_turn : mj_M0 := (yX5_turn, cX5_turn, 4, (some .boolean), RX5, false, [])
set_option maxRecDepth 100000 in
theorem ok_X5_turn : mj_okV m_X5_turn 2 := ⟨⟨mj_in 696 (by decide +kernel) rfl, mj_in 697 (by decide +kernel) rfl, mj_in 1 (by decide +kernel) rfl, mj_in 698 rfl rfl⟩, by decide +kernel, by decide +kernel, by decide +kernel⟩
abbrev m_X5_winch : mj_M0 := (yX5_winch, cX5_winch, 4, (some .boolean), RX5, false, [])
set_option maxRecDepth 100000 in
theorem ok_X5_winch : mj_okV m_X5_winch 2 := ⟨⟨mj_in 777 (by decide +kernel) rfl, mj_in 778 (by decide +kernel) rfl, mj_in 1 (by decide +kernel) rfl, mj_in 779 rfl rfl⟩, by decide +kernel, by decide +kernel, by decide +kernel⟩
abbrev m_X5_wouldMake : mj_M0 := (yX5_wouldMake, cX5_wouldMake, 6, (some .int), RX5, false, [])
set_option maxRecDepth 100000 in
theorem ok_X5_wouldMake : mj_okV m_X5_wouldMake 4 := ⟨⟨mj_in 639 (by decide +kernel) rfl, mj_in 640 (by decide +kernel) rfl, mj_in 1 (by decide +kernel) rfl, mj_in 641 rfl rfl⟩, by decide +kernel, by decide +kernel, by decide +kernel⟩
abbrev m_X5_wouldRisk : mj_M0 := (yX5_wouldRisk, cX5_wouldRisk, 7, (some .int), RX5, false, [])
set_option maxRecDepth 100000 in
theorem ok_X5_wouldRisk : mj_okV m_X5_wouldRisk 4 := ⟨⟨mj_in 511 (by decide +kernel) rfl, mj_in 512 (by decide +kernel) rfl, mj_in 1 (by decide +kernel) rfl, mj_in 513 rfl rfl⟩, by decide +kernel, by decide +kernel, by decide +kernel⟩
abbrev m_X6_blow : mj_M0 := (yX6_blow, cX6_blow, 4, none, RX6, false, [])
set_option maxRecDepth 100000 in
theorem ok_X6_blow : mj_okV m_X6_blow 3 := ⟨⟨mj_in 1125 (by decide +kernel) rfl, mj_ip 14 (by decide +kernel) rfl, mj_in 8 (by decide +kernel) rfl, mj_in 1126 rfl rfl⟩, by decide +kernel, by decide +kernel, by decide +kernel⟩
abbrev m_X6_close : mj_M0 := (yX6_close, cX6_close, 2, none, RX6, false, [])
set_option maxRecDepth 100000 in
theorem ok_X6_close : mj_okV m_X6_close 1 := ⟨⟨mj_in 1160 (by decide +kernel) rfl, mj_in 1161 (by decide +kernel) rfl, mj_in 8 (by decide +kernel) rfl, mj_in 1162 rfl rfl⟩, by decide +kernel, by decide +kernel, by decide +kernel⟩
abbrev m_X6_copy : mj_M0 := (yX6_copy, cX6_copy, 4, (some (.object "PistekeeperModel$Mountain")), RX6, false, [])
set_option maxRecDepth 100000 in
theorem ok_X6_copy : mj_okV m_X6_copy 0 := ⟨⟨mj_in 1325 (by decide +kernel) rfl, mj_in 1326 (by decide +kernel) rfl, mj_in 8 (by decide +kernel) rfl, mj_in 1327 rfl rfl⟩, by decide +kernel, by decide +kernel, by decide +kernel⟩
abbrev m_X6_init : mj_M0 := (yX6_init, cX6_init, 1, none, RX6, true, [])
set_option maxRecDepth 100000 in
theorem ok_X6_init : mj_okI m_X6_init 0 := ⟨⟨mj_in 842 (by decide +kernel) rfl, mj_in 8 (by decide +kernel) rfl, mj_in 843 rfl rfl⟩, ⟨by decide +kernel, by decide +kernel, by decide +kernel⟩, rfl, rfl⟩
abbrev m_X6_make : mj_M0 := (yX6_make, cX6_make, 4, none, RX6, false, [])
set_option maxRecDepth 100000 in
theorem ok_X6_make : mj_okV m_X6_make 2 := ⟨⟨mj_in 1135 (by decide +kernel) rfl, mj_ip 15 (by decide +kernel) rfl, mj_in 8 (by decide +kernel) rfl, mj_in 1136 rfl rfl⟩, by decide +kernel, by decide +kernel, by decide +kernel⟩
abbrev m_X6_melt : mj_M0 := (yX6_melt, cX6_melt, 3, none, RX6, false, [])
set_option maxRecDepth 100000 in
theorem ok_X6_melt : mj_okV m_X6_melt 2 := ⟨⟨mj_in 1115 (by decide +kernel) rfl, mj_ip 13 (by decide +kernel) rfl, mj_in 8 (by decide +kernel) rfl, mj_in 1116 rfl rfl⟩, by decide +kernel, by decide +kernel, by decide +kernel⟩
abbrev m_X6_opened : mj_M0 := (yX6_opened, cX6_opened, 5, (some .int), RX6, false, [])
set_option maxRecDepth 100000 in
theorem ok_X6_opened : mj_okV m_X6_opened 1 := ⟨⟨mj_in 1214 (by decide +kernel) rfl, mj_in 1215 (by decide +kernel) rfl, mj_in 8 (by decide +kernel) rfl, mj_in 1216 rfl rfl⟩, by decide +kernel, by decide +kernel, by decide +kernel⟩
abbrev m_X6_pass : mj_M0 := (yX6_pass, cX6_pass, 9, (some .int), RX6, false, [])
set_option maxRecDepth 100000 in
theorem ok_X6_pass : mj_okV m_X6_pass 5 := ⟨⟨mj_in 1081 (by decide +kernel) rfl, mj_in 1082 (by decide +kernel) rfl, mj_in 8 (by decide +kernel) rfl, mj_in 1083 rfl rfl⟩, by decide +kernel, by decide +kernel, by decide +kernel⟩
abbrev m_X6_pass_ : mj_M0 := (yX6_pass_, cX6_pass_, 14, none, RX6, false, [])
set_option maxRecDepth 100000 in
theorem ok_X6_pass_ : mj_okV m_X6_pass_ 6 := ⟨⟨mj_in 1087 (by decide +kernel) rfl, mj_ip 12 (by decide +kernel) rfl, mj_in 8 (by decide +kernel) rfl, mj_in 1088 rfl rfl⟩, by decide +kernel, by decide +kernel, by decide +kernel⟩
abbrev m_X6_ride : mj_M0 := (yX6_ride, cX6_ride, 9, none, RX6, false, [])
set_option maxRecDepth 100000 in
theorem ok_X6_ride : mj_okV m_X6_ride 0 := ⟨⟨mj_in 1211 (by decide +kernel) rfl, mj_ip 16 (by decide +kernel) rfl, mj_in 8 (by decide +kernel) rfl, mj_in 1212 rfl rfl⟩, by decide +kernel, by decide +kernel, by decide +kernel⟩
abbrev m_X6_ski : mj_M0 := (yX6_ski, cX6_ski, 6, none, RX6, false, [])
set_option maxRecDepth 100000 in
theorem ok_X6_ski : mj_okV m_X6_ski 2 := ⟨⟨mj_in 1219 (by decide +kernel) rfl, mj_ip 17 (by decide +kernel) rfl, mj_in 8 (by decide +kernel) rfl, mj_in 1220 rfl rfl⟩, by decide +kernel, by decide +kernel, by decide +kernel⟩
abbrev m_X6_slide : mj_M0 := (yX6_slide, cX6_slide, 3, (some .int), RX6, false, [])
set_option maxRecDepth 100000 in
theorem ok_X6_slide : mj_okV m_X6_slide 1 := ⟨⟨mj_in 1151 (by decide +kernel) rfl, mj_in 1152 (by decide +kernel) rfl, mj_in 8 (by decide +kernel) rfl, mj_in 1153 rfl rfl⟩, by decide +kernel, by decide +kernel, by decide +kernel⟩
abbrev m_X7_add : mj_M0 := (yX7_add, cX7_add, 4, none, RX7, false, [])
set_option maxRecDepth 100000 in
theorem ok_X7_add : mj_okS m_X7_add 4 := ⟨⟨mj_in 1107 (by decide +kernel) rfl, mj_in 7 (by decide +kernel) rfl, mj_in 1108 rfl rfl⟩, by decide +kernel, by decide +kernel, by decide +kernel⟩
abbrev m_X7_add_ : mj_M0 := (yX7_add_, cX7_add_, 2, none, RX7, false, [])
set_option maxRecDepth 100000 in
theorem ok_X7_add_ : mj_okV m_X7_add_ 1 := ⟨⟨mj_in 1373 (by decide +kernel) rfl, mj_ip 31 (by decide +kernel) rfl, mj_in 7 (by decide +kernel) rfl, mj_in 1374 rfl rfl⟩, by decide +kernel, by decide +kernel, by decide +kernel⟩
abbrev m_X7_areHours : mj_M0 := (yX7_areHours, cX7_areHours, 1, (some .boolean), RX7, false, [])
set_option maxRecDepth 100000 in
theorem ok_X7_areHours : mj_okS m_X7_areHours 1 := ⟨⟨mj_in 1075 (by decide +kernel) rfl, mj_in 7 (by decide +kernel) rfl, mj_in 1076 rfl rfl⟩, by decide +kernel, by decide +kernel, by decide +kernel⟩
abbrev m_X7_at : mj_M0 := (yX7_at, cX7_at, 3, (some .int), RX7, false, [])
set_option maxRecDepth 100000 in
theorem ok_X7_at : mj_okS m_X7_at 3 := ⟨⟨mj_in 1098 (by decide +kernel) rfl, mj_in 7 (by decide +kernel) rfl, mj_in 1099 rfl rfl⟩, by decide +kernel, by decide +kernel, by decide +kernel⟩
abbrev m_X7_bars : mj_M0 := (yX7_bars, cX7_bars, 2, (some .int), RX7, false, [])
set_option maxRecDepth 100000 in
theorem ok_X7_bars : mj_okV m_X7_bars 1 := ⟨⟨mj_in 1263 (by decide +kernel) rfl, mj_ip 20 (by decide +kernel) rfl, mj_in 7 (by decide +kernel) rfl, mj_in 1264 rfl rfl⟩, by decide +kernel, by decide +kernel, by decide +kernel⟩
abbrev m_X7_barsBelow : mj_M0 := (yX7_barsBelow, cX7_barsBelow, 7, (some .int), RX7, false, [])
set_option maxRecDepth 100000 in
theorem ok_X7_barsBelow : mj_okV m_X7_barsBelow 4 := ⟨⟨mj_in 1271 (by decide +kernel) rfl, mj_ip 22 (by decide +kernel) rfl, mj_in 7 (by decide +kernel) rfl, mj_in 1272 rfl rfl⟩, by decide +kernel, by decide +kernel, by decide +kernel⟩
abbrev m_X7_blast : mj_M0 := (yX7_blast, cX7_blast, 2, (some .int), RX7, false, [])
set_option maxRecDepth 100000 in
theorem ok_X7_blast : mj_okV m_X7_blast 1 := ⟨⟨mj_in 1222 (by decide +kernel) rfl, mj_in 1223 (by decide +kernel) rfl, mj_in 7 (by decide +kernel) rfl, mj_in 1224 rfl rfl⟩, by decide +kernel, by decide +kernel, by decide +kernel⟩
abbrev m_X7_close : mj_M0 := (yX7_close, cX7_close, 2, (some .int), RX7, false, [])
set_option maxRecDepth 100000 in
theorem ok_X7_close : mj_okV m_X7_close 1 := ⟨⟨mj_in 1274 (by decide +kernel) rfl, mj_in 1275 (by decide +kernel) rfl, mj_in 7 (by decide +kernel) rfl, mj_in 1276 rfl rfl⟩, by decide +kernel, by decide +kernel, by decide +kernel⟩
abbrev m_X7_couldNow : mj_M0 := (yX7_couldNow, cX7_couldNow, 4, (some .int), RX7, false, [])
set_option maxRecDepth 100000 in
theorem ok_X7_couldNow : mj_okV m_X7_couldNow 0 := ⟨⟨mj_in 1364 (by decide +kernel) rfl, mj_ip 30 (by decide +kernel) rfl, mj_in 7 (by decide +kernel) rfl, mj_in 1365 rfl rfl⟩, by decide +kernel, by decide +kernel, by decide +kernel⟩
abbrev m_X7_couldOpen : mj_M0 := (yX7_couldOpen, cX7_couldOpen, 1, (some .int), RX7, false, [])
set_option maxRecDepth 100000 in
theorem ok_X7_couldOpen : mj_okV m_X7_couldOpen 0 := ⟨⟨mj_in 1359 (by decide +kernel) rfl, mj_in 1360 (by decide +kernel) rfl, mj_in 7 (by decide +kernel) rfl, mj_in 1361 rfl rfl⟩, by decide +kernel, by decide +kernel, by decide +kernel⟩
abbrev m_X7_crowd : mj_M0 := (yX7_crowd, cX7_crowd, 3, (some .int), RX7, false, [])
set_option maxRecDepth 100000 in
theorem ok_X7_crowd : mj_okV m_X7_crowd 1 := ⟨⟨mj_in 1067 (by decide +kernel) rfl, mj_in 1068 (by decide +kernel) rfl, mj_in 7 (by decide +kernel) rfl, mj_in 1069 rfl rfl⟩, by decide +kernel, by decide +kernel, by decide +kernel⟩
abbrev m_X7_deepen : mj_M0 := (yX7_deepen, cX7_deepen, 2, none, RX7, false, [])
set_option maxRecDepth 100000 in
theorem ok_X7_deepen : mj_okS m_X7_deepen 2 := ⟨⟨mj_in 1101 (by decide +kernel) rfl, mj_in 7 (by decide +kernel) rfl, mj_in 1102 rfl rfl⟩, by decide +kernel, by decide +kernel, by decide +kernel⟩
abbrev m_X7_depth : mj_M0 := (yX7_depth, cX7_depth, 4, (some .int), RX7, false, [])
set_option maxRecDepth 100000 in
theorem ok_X7_depth : mj_okS m_X7_depth 2 := ⟨⟨mj_in 1147 (by decide +kernel) rfl, mj_in 7 (by decide +kernel) rfl, mj_in 1148 rfl rfl⟩, by decide +kernel, by decide +kernel, by decide +kernel⟩
abbrev m_X7_depthWith : mj_M0 := (yX7_depthWith, cX7_depthWith, 9, (some .int), RX7, false, [])
set_option maxRecDepth 100000 in
theorem ok_X7_depthWith : mj_okV m_X7_depthWith 5 := ⟨⟨mj_in 1347 (by decide +kernel) rfl, mj_ip 28 (by decide +kernel) rfl, mj_in 7 (by decide +kernel) rfl, mj_in 1348 rfl rfl⟩, by decide +kernel, by decide +kernel, by decide +kernel⟩
abbrev m_X7_digest : mj_M0 := (yX7_digest, cX7_digest, 4, (some .long), RX7, false, [])
set_option maxRecDepth 100000 in
theorem ok_X7_digest : mj_okV m_X7_digest 0 := ⟨⟨mj_in 1367 (by decide +kernel) rfl, mj_in 1368 (by decide +kernel) rfl, mj_in 7 (by decide +kernel) rfl, mj_in 1369 rfl rfl⟩, by decide +kernel, by decide +kernel, by decide +kernel⟩
abbrev m_X7_drop : mj_M0 := (yX7_drop, cX7_drop, 3, none, RX7, false, [])
set_option maxRecDepth 100000 in
theorem ok_X7_drop : mj_okS m_X7_drop 2 := ⟨⟨mj_in 1121 (by decide +kernel) rfl, mj_in 7 (by decide +kernel) rfl, mj_in 1122 rfl rfl⟩, by decide +kernel, by decide +kernel, by decide +kernel⟩
abbrev m_X7_fill : mj_M0 := (yX7_fill, cX7_fill, 2, (some .int), RX7, false, [])
set_option maxRecDepth 100000 in
theorem ok_X7_fill : mj_okV m_X7_fill 1 := ⟨⟨mj_in 1062 (by decide +kernel) rfl, mj_in 1063 (by decide +kernel) rfl, mj_in 7 (by decide +kernel) rfl, mj_in 1064 rfl rfl⟩, by decide +kernel, by decide +kernel, by decide +kernel⟩
abbrev m_X7_groom : mj_M0 := (yX7_groom, cX7_groom, 7, (some .int), RX7, false, [])
set_option maxRecDepth 100000 in
theorem ok_X7_groom : mj_okV m_X7_groom 1 := ⟨⟨mj_in 1253 (by decide +kernel) rfl, mj_in 1254 (by decide +kernel) rfl, mj_in 7 (by decide +kernel) rfl, mj_in 1255 rfl rfl⟩, by decide +kernel, by decide +kernel, by decide +kernel⟩
abbrev m_X7_guns : mj_M0 := (yX7_guns, cX7_guns, 4, (some .int), RX7, false, [])
set_option maxRecDepth 100000 in
theorem ok_X7_guns : mj_okV m_X7_guns 2 := ⟨⟨mj_in 1050 (by decide +kernel) rfl, mj_in 1051 (by decide +kernel) rfl, mj_in 7 (by decide +kernel) rfl, mj_in 1052 rfl rfl⟩, by decide +kernel, by decide +kernel, by decide +kernel⟩
abbrev m_X7_init : mj_M0 := (yX7_init, cX7_init, 1, none, RX7, true, [])
set_option maxRecDepth 100000 in
theorem ok_X7_init : mj_okI m_X7_init 0 := ⟨⟨mj_in 836 (by decide +kernel) rfl, mj_in 7 (by decide +kernel) rfl, mj_in 837 rfl rfl⟩, ⟨by decide +kernel, by decide +kernel, by decide +kernel⟩, rfl, rfl⟩
abbrev m_X7_is : mj_M0 := (yX7_is, cX7_is, 3, (some .boolean), RX7, false, [])
set_option maxRecDepth 100000 in
theorem ok_X7_is : mj_okS m_X7_is 3 := ⟨⟨mj_in 954 (by decide +kernel) rfl, mj_in 7 (by decide +kernel) rfl, mj_in 955 rfl rfl⟩, by decide +kernel, by decide +kernel, by decide +kernel⟩
abbrev m_X7_isLift : mj_M0 := (yX7_isLift, cX7_isLift, 2, (some .boolean), RX7, false, [])
set_option maxRecDepth 100000 in
theorem ok_X7_isLift : mj_okV m_X7_isLift 1 := ⟨⟨mj_in 1024 (by decide +kernel) rfl, mj_ip 9 (by decide +kernel) rfl, mj_in 7 (by decide +kernel) rfl, mj_in 1025 rfl rfl⟩, by decide +kernel, by decide +kernel, by decide +kernel⟩
abbrev m_X7_isOpen : mj_M0 := (yX7_isOpen, cX7_isOpen, 2, (some .boolean), RX7, false, [])
set_option maxRecDepth 100000 in
theorem ok_X7_isOpen : mj_okV m_X7_isOpen 1 := ⟨⟨mj_in 1227 (by decide +kernel) rfl, mj_ip 18 (by decide +kernel) rfl, mj_in 7 (by decide +kernel) rfl, mj_in 1228 rfl rfl⟩, by decide +kernel, by decide +kernel, by decide +kernel⟩
abbrev m_X7_isRun : mj_M0 := (yX7_isRun, cX7_isRun, 2, (some .boolean), RX7, false, [])
set_option maxRecDepth 100000 in
theorem ok_X7_isRun : mj_okV m_X7_isRun 1 := ⟨⟨mj_in 1055 (by decide +kernel) rfl, mj_ip 10 (by decide +kernel) rfl, mj_in 7 (by decide +kernel) rfl, mj_in 1056 rfl rfl⟩, by decide +kernel, by decide +kernel, by decide +kernel⟩
abbrev m_X7_isTested : mj_M0 := (yX7_isTested, cX7_isTested, 2, (some .boolean), RX7, false, [])
set_option maxRecDepth 100000 in
theorem ok_X7_isTested : mj_okV m_X7_isTested 1 := ⟨⟨mj_in 1267 (by decide +kernel) rfl, mj_ip 21 (by decide +kernel) rfl, mj_in 7 (by decide +kernel) rfl, mj_in 1268 rfl rfl⟩, by decide +kernel, by decide +kernel, by decide +kernel⟩
abbrev m_X7_isTop : mj_M0 := (yX7_isTop, cX7_isTop, 2, (some .boolean), RX7, false, [])
set_option maxRecDepth 100000 in
theorem ok_X7_isTop : mj_okS m_X7_isTop 2 := ⟨⟨mj_in 1092 (by decide +kernel) rfl, mj_in 7 (by decide +kernel) rfl, mj_in 1093 rfl rfl⟩, by decide +kernel, by decide +kernel, by decide +kernel⟩
abbrev m_X7_isWarmth : mj_M0 := (yX7_isWarmth, cX7_isWarmth, 1, (some .boolean), RX7, false, [])
set_option maxRecDepth 100000 in
theorem ok_X7_isWarmth : mj_okS m_X7_isWarmth 1 := ⟨⟨mj_in 1078 (by decide +kernel) rfl, mj_in 7 (by decide +kernel) rfl, mj_in 1079 rfl rfl⟩, by decide +kernel, by decide +kernel, by decide +kernel⟩
abbrev m_X7_lift : mj_M0 := (yX7_lift, cX7_lift, 4, (some .int), RX7, false, [])
set_option maxRecDepth 100000 in
theorem ok_X7_lift : mj_okV m_X7_lift 2 := ⟨⟨mj_in 950 (by decide +kernel) rfl, mj_in 951 (by decide +kernel) rfl, mj_in 7 (by decide +kernel) rfl, mj_in 952 rfl rfl⟩, by decide +kernel, by decide +kernel, by decide +kernel⟩
abbrev m_X7_makeNow : mj_M0 := (yX7_makeNow, cX7_makeNow, 5, (some .int), RX7, false, [])
set_option maxRecDepth 100000 in
theorem ok_X7_makeNow : mj_okV m_X7_makeNow 4 := ⟨⟨mj_in 1343 (by decide +kernel) rfl, mj_ip 27 (by decide +kernel) rfl, mj_in 7 (by decide +kernel) rfl, mj_in 1344 rfl rfl⟩, by decide +kernel, by decide +kernel, by decide +kernel⟩
abbrev m_X7_many : mj_M0 := (yX7_many, cX7_many, 2, (some .int), RX7, false, [])
set_option maxRecDepth 100000 in
theorem ok_X7_many : mj_okV m_X7_many 1 := ⟨⟨mj_in 1300 (by decide +kernel) rfl, mj_in 1301 (by decide +kernel) rfl, mj_in 7 (by decide +kernel) rfl, mj_in 1302 rfl rfl⟩, by decide +kernel, by decide +kernel, by decide +kernel⟩
abbrev m_X7_manyNow : mj_M0 := (yX7_manyNow, cX7_manyNow, 7, (some .int), RX7, false, [])
set_option maxRecDepth 100000 in
theorem ok_X7_manyNow : mj_okV m_X7_manyNow 1 := ⟨⟨mj_in 1305 (by decide +kernel) rfl, mj_ip 25 (by decide +kernel) rfl, mj_in 7 (by decide +kernel) rfl, mj_in 1306 rfl rfl⟩, by decide +kernel, by decide +kernel, by decide +kernel⟩
abbrev m_X7_meanDepth : mj_M0 := (yX7_meanDepth, cX7_meanDepth, 4, (some .double), RX7, false, [])
set_option maxRecDepth 100000 in
theorem ok_X7_meanDepth : mj_okV m_X7_meanDepth 0 := ⟨⟨mj_in 1313 (by decide +kernel) rfl, mj_in 1314 (by decide +kernel) rfl, mj_in 7 (by decide +kernel) rfl, mj_in 1315 rfl rfl⟩, by decide +kernel, by decide +kernel, by decide +kernel⟩
abbrev m_X7_nextBlast : mj_M0 := (yX7_nextBlast, cX7_nextBlast, 1, (some .int), RX7, false, [])
set_option maxRecDepth 100000 in
theorem ok_X7_nextBlast : mj_okV m_X7_nextBlast 0 := ⟨⟨mj_in 1350 (by decide +kernel) rfl, mj_in 1351 (by decide +kernel) rfl, mj_in 7 (by decide +kernel) rfl, mj_in 1352 rfl rfl⟩, by decide +kernel, by decide +kernel, by decide +kernel⟩
abbrev m_X7_nextNow : mj_M0 := (yX7_nextNow, cX7_nextNow, 4, (some .int), RX7, false, [])
set_option maxRecDepth 100000 in
theorem ok_X7_nextNow : mj_okV m_X7_nextNow 0 := ⟨⟨mj_in 1355 (by decide +kernel) rfl, mj_ip 29 (by decide +kernel) rfl, mj_in 7 (by decide +kernel) rfl, mj_in 1356 rfl rfl⟩, by decide +kernel, by decide +kernel, by decide +kernel⟩
abbrev m_X7_ofLayer : mj_M0 := (yX7_ofLayer, cX7_ofLayer, 4, (some .int), RX7, false, [])
set_option maxRecDepth 100000 in
theorem ok_X7_ofLayer : mj_okV m_X7_ofLayer 3 := ⟨⟨mj_in 1287 (by decide +kernel) rfl, mj_in 1288 (by decide +kernel) rfl, mj_in 7 (by decide +kernel) rfl, mj_in 1289 rfl rfl⟩, by decide +kernel, by decide +kernel, by decide +kernel⟩
abbrev m_X7_ofLift : mj_M0 := (yX7_ofLift, cX7_ofLift, 3, (some .int), RX7, false, [])
set_option maxRecDepth 100000 in
theorem ok_X7_ofLift : mj_okV m_X7_ofLift 2 := ⟨⟨mj_in 1291 (by decide +kernel) rfl, mj_in 1292 (by decide +kernel) rfl, mj_in 7 (by decide +kernel) rfl, mj_in 1293 rfl rfl⟩, by decide +kernel, by decide +kernel, by decide +kernel⟩
abbrev m_X7_ofLiftNow : mj_M0 := (yX7_ofLiftNow, cX7_ofLiftNow, 3, (some .int), RX7, false, [])
set_option maxRecDepth 100000 in
theorem ok_X7_ofLiftNow : mj_okV m_X7_ofLiftNow 2 := ⟨⟨mj_in 1296 (by decide +kernel) rfl, mj_ip 24 (by decide +kernel) rfl, mj_in 7 (by decide +kernel) rfl, mj_in 1297 rfl rfl⟩, by decide +kernel, by decide +kernel, by decide +kernel⟩
abbrev m_X7_ofRun : mj_M0 := (yX7_ofRun, cX7_ofRun, 3, (some .int), RX7, false, [])
set_option maxRecDepth 100000 in
theorem ok_X7_ofRun : mj_okV m_X7_ofRun 2 := ⟨⟨mj_in 1279 (by decide +kernel) rfl, mj_in 1280 (by decide +kernel) rfl, mj_in 7 (by decide +kernel) rfl, mj_in 1281 rfl rfl⟩, by decide +kernel, by decide +kernel, by decide +kernel⟩
abbrev m_X7_ofRunNow : mj_M0 := (yX7_ofRunNow, cX7_ofRunNow, 5, (some .int), RX7, false, [])
set_option maxRecDepth 100000 in
theorem ok_X7_ofRunNow : mj_okV m_X7_ofRunNow 2 := ⟨⟨mj_in 1284 (by decide +kernel) rfl, mj_ip 23 (by decide +kernel) rfl, mj_in 7 (by decide +kernel) rfl, mj_in 1285 rfl rfl⟩, by decide +kernel, by decide +kernel, by decide +kernel⟩
abbrev m_X7_open : mj_M0 := (yX7_open, cX7_open, 3, (some .int), RX7, false, [])
set_option maxRecDepth 100000 in
theorem ok_X7_open : mj_okV m_X7_open 1 := ⟨⟨mj_in 1258 (by decide +kernel) rfl, mj_in 1259 (by decide +kernel) rfl, mj_in 7 (by decide +kernel) rfl, mj_in 1260 rfl rfl⟩, by decide +kernel, by decide +kernel, by decide +kernel⟩
abbrev m_X7_pass : mj_M0 := (yX7_pass, cX7_pass, 9, (some .int), RX7, false, [])
set_option maxRecDepth 100000 in
theorem ok_X7_pass : mj_okV m_X7_pass 6 := ⟨⟨mj_in 1071 (by decide +kernel) rfl, mj_in 1072 (by decide +kernel) rfl, mj_in 7 (by decide +kernel) rfl, mj_in 1073 rfl rfl⟩, by decide +kernel, by decide +kernel, by decide +kernel⟩
abbrev m_X7_put : mj_M0 := (yX7_put, cX7_put, 5, none, RX7, false, [])
set_option maxRecDepth 100000 in
theorem ok_X7_put : mj_okS m_X7_put 5 := ⟨⟨mj_in 1111 (by decide +kernel) rfl, mj_in 7 (by decide +kernel) rfl, mj_in 1112 rfl rfl⟩, by decide +kernel, by decide +kernel, by decide +kernel⟩
abbrev m_X7_refuse : mj_M0 := (yX7_refuse, cX7_refuse, 2, (some .int), RX7, false, [])
set_option maxRecDepth 100000 in
theorem ok_X7_refuse : mj_okV m_X7_refuse 1 := ⟨⟨mj_in 958 (by decide +kernel) rfl, mj_ip 5 (by decide +kernel) rfl, mj_in 7 (by decide +kernel) rfl, mj_in 959 rfl rfl⟩, by decide +kernel, by decide +kernel, by decide +kernel⟩
abbrev m_X7_release : mj_M0 := (yX7_release, cX7_release, 3, (some .boolean), RX7, false, [])
set_option maxRecDepth 100000 in
theorem ok_X7_release : mj_okV m_X7_release 1 := ⟨⟨mj_in 1046 (by decide +kernel) rfl, mj_in 1047 (by decide +kernel) rfl, mj_in 7 (by decide +kernel) rfl, mj_in 1048 rfl rfl⟩, by decide +kernel, by decide +kernel, by decide +kernel⟩
abbrev m_X7_risk : mj_M0 := (yX7_risk, cX7_risk, 1, (some .int), RX7, false, [])
set_option maxRecDepth 100000 in
theorem ok_X7_risk : mj_okS m_X7_risk 1 := ⟨⟨mj_in 1138 (by decide +kernel) rfl, mj_in 7 (by decide +kernel) rfl, mj_in 1139 rfl rfl⟩, by decide +kernel, by decide +kernel, by decide +kernel⟩
abbrev m_X7_riskNow : mj_M0 := (yX7_riskNow, cX7_riskNow, 7, (some .int), RX7, false, [])
set_option maxRecDepth 100000 in
theorem ok_X7_riskNow : mj_okV m_X7_riskNow 4 := ⟨⟨mj_in 1322 (by decide +kernel) rfl, mj_ip 26 (by decide +kernel) rfl, mj_in 7 (by decide +kernel) rfl, mj_in 1323 rfl rfl⟩, by decide +kernel, by decide +kernel, by decide +kernel⟩
abbrev m_X7_run : mj_M0 := (yX7_run, cX7_run, 7, (some .int), RX7, false, [])
set_option maxRecDepth 100000 in
theorem ok_X7_run : mj_okV m_X7_run 5 := ⟨⟨mj_in 1019 (by decide +kernel) rfl, mj_in 1020 (by decide +kernel) rfl, mj_in 7 (by decide +kernel) rfl, mj_in 1021 rfl rfl⟩, by decide +kernel, by decide +kernel, by decide +kernel⟩
abbrev m_X7_runAt : mj_M0 := (yX7_runAt, cX7_runAt, 2, (some (.array .int)), RX7, false, [])
set_option maxRecDepth 100000 in
theorem ok_X7_runAt : mj_okV m_X7_runAt 1 := ⟨⟨mj_in 1059 (by decide +kernel) rfl, mj_ip 11 (by decide +kernel) rfl, mj_in 7 (by decide +kernel) rfl, mj_in 1060 rfl rfl⟩, by decide +kernel, by decide +kernel, by decide +kernel⟩
abbrev m_X7_search : mj_M0 := (yX7_search, cX7_search, 2, (some .int), RX7, false, [])
set_option maxRecDepth 100000 in
theorem ok_X7_search : mj_okV m_X7_search 1 := ⟨⟨mj_in 1232 (by decide +kernel) rfl, mj_in 1233 (by decide +kernel) rfl, mj_in 7 (by decide +kernel) rfl, mj_in 1234 rfl rfl⟩, by decide +kernel, by decide +kernel, by decide +kernel⟩
abbrev m_X7_set : mj_M0 := (yX7_set, cX7_set, 4, none, RX7, false, [])
set_option maxRecDepth 100000 in
theorem ok_X7_set : mj_okS m_X7_set 4 := ⟨⟨mj_in 1104 (by decide +kernel) rfl, mj_in 7 (by decide +kernel) rfl, mj_in 1105 rfl rfl⟩, by decide +kernel, by decide +kernel, by decide +kernel⟩
abbrev m_X7_shear : mj_M0 := (yX7_shear, cX7_shear, 4, (some .int), RX7, false, [])
set_option maxRecDepth 100000 in
theorem ok_X7_shear : mj_okS m_X7_shear 1 := ⟨⟨mj_in 1141 (by decide +kernel) rfl, mj_in 7 (by decide +kernel) rfl, mj_in 1142 rfl rfl⟩, by decide +kernel, by decide +kernel, by decide +kernel⟩
abbrev m_X7_size : mj_M0 := (yX7_size, cX7_size, 1, (some .int), RX7, false, [])
set_option maxRecDepth 100000 in
theorem ok_X7_size : mj_okS m_X7_size 1 := ⟨⟨mj_in 1155 (by decide +kernel) rfl, mj_in 7 (by decide +kernel) rfl, mj_in 1156 rfl rfl⟩, by decide +kernel, by decide +kernel, by decide +kernel⟩
abbrev m_X7_strain : mj_M0 := (yX7_strain, cX7_strain, 3, (some .int), RX7, false, [])
set_option maxRecDepth 100000 in
theorem ok_X7_strain : mj_okS m_X7_strain 2 := ⟨⟨mj_in 1144 (by decide +kernel) rfl, mj_in 7 (by decide +kernel) rfl, mj_in 1145 rfl rfl⟩, by decide +kernel, by decide +kernel, by decide +kernel⟩
abbrev m_X7_sweep : mj_M0 := (yX7_sweep, cX7_sweep, 3, (some .boolean), RX7, false, [])
set_option maxRecDepth 100000 in
theorem ok_X7_sweep : mj_okV m_X7_sweep 1 := ⟨⟨mj_in 1245 (by decide +kernel) rfl, mj_in 1246 (by decide +kernel) rfl, mj_in 7 (by decide +kernel) rfl, mj_in 1247 rfl rfl⟩, by decide +kernel, by decide +kernel, by decide +kernel⟩
abbrev m_X7_take : mj_M0 := (yX7_take, cX7_take, 3, none, RX7, false, [])
set_option maxRecDepth 100000 in
theorem ok_X7_take : mj_okS m_X7_take 2 := ⟨⟨mj_in 1118 (by decide +kernel) rfl, mj_in 7 (by decide +kernel) rfl, mj_in 1119 rfl rfl⟩, by decide +kernel, by decide +kernel, by decide +kernel⟩
abbrev m_X7_tells : mj_M0 := (yX7_tells, cX7_tells, 2, (some .int), RX7, false, [])
set_option maxRecDepth 100000 in
theorem ok_X7_tells : mj_okV m_X7_tells 1 := ⟨⟨mj_in 1241 (by decide +kernel) rfl, mj_ip 19 (by decide +kernel) rfl, mj_in 7 (by decide +kernel) rfl, mj_in 1242 rfl rfl⟩, by decide +kernel, by decide +kernel, by decide +kernel⟩
abbrev m_X7_test : mj_M0 := (yX7_test, cX7_test, 2, (some .int), RX7, false, [])
set_option maxRecDepth 100000 in
theorem ok_X7_test : mj_okV m_X7_test 1 := ⟨⟨mj_in 1236 (by decide +kernel) rfl, mj_in 1237 (by decide +kernel) rfl, mj_in 7 (by decide +kernel) rfl, mj_in 1238 rfl rfl⟩, by decide +kernel, by decide +kernel, by decide +kernel⟩
abbrev m_X7_thrown : mj_M0 := (yX7_thrown, cX7_thrown, 1, (some .int), RX7, false, [])
set_option maxRecDepth 100000 in
theorem ok_X7_thrown : mj_okV m_X7_thrown 0 := ⟨⟨mj_in 946 (by decide +kernel) rfl, mj_in 947 (by decide +kernel) rfl, mj_in 7 (by decide +kernel) rfl, mj_in 948 rfl rfl⟩, by decide +kernel, by decide +kernel, by decide +kernel⟩
abbrev m_X7_top : mj_M0 := (yX7_top, cX7_top, 1, (some .int), RX7, false, [])
set_option maxRecDepth 100000 in
theorem ok_X7_top : mj_okS m_X7_top 1 := ⟨⟨mj_in 1095 (by decide +kernel) rfl, mj_in 7 (by decide +kernel) rfl, mj_in 1096 rfl rfl⟩, by decide +kernel, by decide +kernel, by decide +kernel⟩
abbrev m_X7_turn : mj_M0 := (yX7_turn, cX7_turn, 4, (some .boolean), RX7, false, [])
set_option maxRecDepth 100000 in
theorem ok_X7_turn : mj_okV m_X7_turn 2 := ⟨⟨mj_in 1027 (by decide +kernel) rfl, mj_in 1028 (by decide +kernel) rfl, mj_in 7 (by decide +kernel) rfl, mj_in 1029 rfl rfl⟩, by decide +kernel, by decide +kernel, by decide +kernel⟩
abbrev m_X7_winch : mj_M0 := (yX7_winch, cX7_winch, 4, (some .boolean), RX7, false, [])
set_option maxRecDepth 100000 in
theorem ok_X7_winch : mj_okV m_X7_winch 2 := ⟨⟨mj_in 1249 (by decide +kernel) rfl, mj_in 1250 (by decide +kernel) rfl, mj_in 7 (by decide +kernel) rfl, mj_in 1251 rfl rfl⟩, by decide +kernel, by decide +kernel, by decide +kernel⟩
abbrev m_X7_wouldMake : mj_M0 := (yX7_wouldMake, cX7_wouldMake, 5, (some .int), RX7, false, [])
set_option maxRecDepth 100000 in
theorem ok_X7_wouldMake : mj_okV m_X7_wouldMake 4 := ⟨⟨mj_in 1338 (by decide +kernel) rfl, mj_in 1339 (by decide +kernel) rfl, mj_in 7 (by decide +kernel) rfl, mj_in 1340 rfl rfl⟩, by decide +kernel, by decide +kernel, by decide +kernel⟩
abbrev m_X7_wouldRisk : mj_M0 := (yX7_wouldRisk, cX7_wouldRisk, 5, (some .int), RX7, false, [])
set_option maxRecDepth 100000 in
theorem ok_X7_wouldRisk : mj_okV m_X7_wouldRisk 4 := ⟨⟨mj_in 1317 (by decide +kernel) rfl, mj_in 1318 (by decide +kernel) rfl, mj_in 7 (by decide +kernel) rfl, mj_in 1319 rfl rfl⟩, by decide +kernel, by decide +kernel, by decide +kernel⟩
theorem cl_L_8 : Cond.classLink RL 8 RX5 ∈ mj_TW := mj_in 25 (by decide +kernel) rfl
theorem in_X5 : Cond.instantiable RX5 4 ∈ mj_TW ∧ Cond.initialized RX5 ∈ mj_TW := ⟨mj_in 26 (by decide +kernel) rfl, mj_in 1 (by decide +kernel) rfl⟩
theorem ln_L_89 : Cond.methodLink RL 89 yX5_init ∈ mj_TW := mj_in 27 (by decide +kernel) rfl
theorem ln_X5_1 : Cond.methodLink RX5 1 ⟨"java/lang/Object", "<init>", "()V"⟩ ∈ mj_TW := mj_in 30 (by decide +kernel) rfl
theorem cl_X5_7 : Cond.classLink RX5 7 RX1 ∈ mj_TW := mj_in 33 (by decide +kernel) rfl
theorem in_X1 : Cond.instantiable RX1 16 ∈ mj_TW ∧ Cond.initialized RX1 ∈ mj_TW := ⟨mj_in 34 (by decide +kernel) rfl, mj_in 2 (by decide +kernel) rfl⟩
theorem ln_X5_9 : Cond.methodLink RX5 9 yX1_init ∈ mj_TW := mj_in 35 (by decide +kernel) rfl
theorem ln_X1_3 : Cond.methodLink RX1 3 ⟨"java/lang/Object", "<init>", "()V"⟩ ∈ mj_TW := mj_in 38 (by decide +kernel) rfl
theorem cl_X1_9 : Cond.classLink RX1 9 RX0 ∈ mj_TW := mj_in 39 (by decide +kernel) rfl
theorem in_X0 : Cond.instantiable RX0 5 ∈ mj_TW ∧ Cond.initialized RX0 ∈ mj_TW := ⟨mj_in 41 (by decide +kernel) rfl, mj_in 3 (by decide +kernel) rfl⟩
theorem ln_X0_1 : Cond.methodLink RX0 1 ⟨"java/lang/Object", "<init>", "()V"⟩ ∈ mj_TW := mj_in 45 (by decide +kernel) rfl
theorem cl_X1_18 : Cond.classLink RX1 18 RX2 ∈ mj_TW := mj_in 71 (by decide +kernel) rfl
theorem in_X2 : Cond.instantiable RX2 18 ∈ mj_TW ∧ Cond.initialized RX2 ∈ mj_TW := ⟨mj_in 73 (by decide +kernel) rfl, mj_in 4 (by decide +kernel) rfl⟩
theorem ln_X1_24 : Cond.methodLink RX1 24 yX2_init ∈ mj_TW := mj_in 74 (by decide +kernel) rfl
theorem ln_X2_3 : Cond.methodLink RX2 3 ⟨"java/lang/Object", "<init>", "()V"⟩ ∈ mj_TW := mj_in 77 (by decide +kernel) rfl
theorem cl_X2_9 : Cond.classLink RX2 9 RX3 ∈ mj_TW := mj_in 78 (by decide +kernel) rfl
theorem in_X3 : Cond.instantiable RX3 6 ∈ mj_TW ∧ Cond.initialized RX3 ∈ mj_TW := ⟨mj_in 79 (by decide +kernel) rfl, mj_in 5 (by decide +kernel) rfl⟩
theorem ln_X2_11 : Cond.methodLink RX2 11 yX3_init ∈ mj_TW := mj_in 80 (by decide +kernel) rfl
theorem ln_X3_3 : Cond.methodLink RX3 3 ⟨"java/lang/Object", "<init>", "()V"⟩ ∈ mj_TW := mj_in 83 (by decide +kernel) rfl
theorem cl_X5_22 : Cond.classLink RX5 22 RX4 ∈ mj_TW := mj_in 262 (by decide +kernel) rfl
theorem in_X4 : Cond.instantiable RX4 5 ∈ mj_TW ∧ Cond.initialized RX4 ∈ mj_TW := ⟨mj_in 263 (by decide +kernel) rfl, mj_in 6 (by decide +kernel) rfl⟩
theorem ln_X4_1 : Cond.methodLink RX4 1 ⟨"java/lang/Object", "<init>", "()V"⟩ ∈ mj_TW := mj_in 267 (by decide +kernel) rfl
theorem ln_L_165 : Cond.methodLink RL 165 yX5_meanDepth ∈ mj_TW := mj_in 303 (by decide +kernel) rfl
theorem ln_X5_267 : Cond.methodLink RX5 267 yX1_wholeArea ∈ mj_TW := mj_in 307 (by decide +kernel) rfl
theorem ln_X5_264 : Cond.methodLink RX5 264 yX1_depthByArea ∈ mj_TW := mj_in 311 (by decide +kernel) rfl
theorem ln_X1_93 : Cond.methodLink RX1 93 yX3_wholeDepth ∈ mj_TW := mj_in 315 (by decide +kernel) rfl
theorem ln_X3_38 : Cond.methodLink RX3 38 yX3_depthFrom ∈ mj_TW := mj_in 319 (by decide +kernel) rfl
theorem ln_X3_42 : Cond.methodLink RX3 42 yJ9_max_7cf53 ∈ mj_TW := mj_in 323 (by decide +kernel) rfl
theorem ln_L_177 : Cond.methodLink RL 177 yX5_nextBlast ∈ mj_TW := mj_in 326 (by decide +kernel) rfl
theorem ln_X5_143 : Cond.methodLink RX5 143 yX2_risk ∈ mj_TW := mj_in 330 (by decide +kernel) rfl
theorem ln_X2_75 : Cond.methodLink RX2 75 yX3_risk ∈ mj_TW := mj_in 334 (by decide +kernel) rfl
theorem ln_X3_62 : Cond.methodLink RX3 62 yX3_shear ∈ mj_TW := mj_in 338 (by decide +kernel) rfl
theorem ln_X3_58 : Cond.methodLink RX3 58 yX3_stress ∈ mj_TW := mj_in 342 (by decide +kernel) rfl
theorem ln_X3_48 : Cond.methodLink RX3 48 yJ9_min_7cf53 ∈ mj_TW := mj_in 346 (by decide +kernel) rfl
theorem ln_X5_212 : Cond.methodLink RX5 212 yX2_shear ∈ mj_TW := mj_in 349 (by decide +kernel) rfl
theorem ln_X2_79 : Cond.methodLink RX2 79 yX3_shear ∈ mj_TW := mj_in 353 (by decide +kernel) rfl
theorem ln_X5_283 : Cond.methodLink RX5 283 yX2_sizeFrom ∈ mj_TW := mj_in 354 (by decide +kernel) rfl
theorem ln_X2_82 : Cond.methodLink RX2 82 yX3_depthFrom ∈ mj_TW := mj_in 358 (by decide +kernel) rfl
theorem ln_L_181 : Cond.methodLink RL 181 yX5_couldOpen ∈ mj_TW := mj_in 359 (by decide +kernel) rfl
theorem ln_X5_153 : Cond.methodLink RX5 153 yX1_wouldTell ∈ mj_TW := mj_in 363 (by decide +kernel) rfl
theorem ln_X1_105 : Cond.methodLink RX1 105 yX2_risk ∈ mj_TW := mj_in 367 (by decide +kernel) rfl
theorem ln_X1_108 : Cond.methodLink RX1 108 yJ9_max_7cf53 ∈ mj_TW := mj_in 368 (by decide +kernel) rfl
theorem ln_X5_191 : Cond.methodLink RX5 191 yX1_barNow ∈ mj_TW := mj_in 369 (by decide +kernel) rfl
theorem ln_X1_114 : Cond.methodLink RX1 114 yX1_isTested ∈ mj_TW := mj_in 373 (by decide +kernel) rfl
theorem ln_X1_124 : Cond.methodLink RX1 124 yX1_bar ∈ mj_TW := mj_in 377 (by decide +kernel) rfl
theorem ln_X1_128 : Cond.methodLink RX1 128 yX0_isMoving ∈ mj_TW := mj_in 381 (by decide +kernel) rfl
theorem ln_X5_286 : Cond.methodLink RX5 286 yX1_bar ∈ mj_TW := mj_in 385 (by decide +kernel) rfl
theorem ln_L_185 : Cond.methodLink RL 185 yX5_digest ∈ mj_TW := mj_in 386 (by decide +kernel) rfl
theorem ct_X5_290 : Cond.constantLong RX5 290 (58212 : Int64) ∈ mj_TW := mj_in 390 (by decide +kernel) rfl
theorem ct_X5_292 : Cond.constantLong RX5 292 (31 : Int64) ∈ mj_TW := mj_in 391 (by decide +kernel) rfl
theorem ln_X5_294 : Cond.methodLink RX5 294 yX5_many ∈ mj_TW := mj_in 392 (by decide +kernel) rfl
theorem ln_X5_29 : Cond.methodLink RX5 29 yX5_requireWithin ∈ mj_TW := mj_in 396 (by decide +kernel) rfl
theorem cl_X5_324 : Cond.classLink RX5 324 "java/lang/IllegalArgumentException" ∈ mj_TW := mj_in 399 (by decide +kernel) rfl
theorem ln_X5_328 : Cond.methodLink RX5 328 ⟨"java/lang/IllegalArgumentException", "<init>", "(Ljava/lang/String;)V"⟩ ∈ mj_TW := mj_in 441 (by decide +kernel) rfl
theorem ln_X5_248 : Cond.methodLink RX5 248 yX1_openRuns ∈ mj_TW := mj_in 467 (by decide +kernel) rfl
theorem ln_X5_297 : Cond.methodLink RX5 297 yX5_ofRun ∈ mj_TW := mj_in 474 (by decide +kernel) rfl
theorem ln_X5_98 : Cond.methodLink RX5 98 yX5_requireRun ∈ mj_TW := mj_in 478 (by decide +kernel) rfl
theorem cl_X5_226 : Cond.classLink RX5 226 "java/lang/IndexOutOfBoundsException" ∈ mj_TW := mj_in 482 (by decide +kernel) rfl
theorem ln_X5_230 : Cond.methodLink RX5 230 ⟨"java/lang/IndexOutOfBoundsException", "<init>", "(Ljava/lang/String;)V"⟩ ∈ mj_TW := mj_in 492 (by decide +kernel) rfl
theorem ln_X5_202 : Cond.methodLink RX5 202 yX3_wholeDepth ∈ mj_TW := mj_in 498 (by decide +kernel) rfl
theorem ln_X5_208 : Cond.methodLink RX5 208 yX5_oneIf ∈ mj_TW := mj_in 499 (by decide +kernel) rfl
theorem ln_X5_215 : Cond.methodLink RX5 215 yX1_isTested ∈ mj_TW := mj_in 500 (by decide +kernel) rfl
theorem ln_X5_300 : Cond.methodLink RX5 300 yX5_digestLayers ∈ mj_TW := mj_in 501 (by decide +kernel) rfl
theorem ln_X5_320 : Cond.methodLink RX5 320 yX5_ofLayer ∈ mj_TW := mj_in 505 (by decide +kernel) rfl
theorem ln_X5_304 : Cond.methodLink RX5 304 yX5_wouldRisk ∈ mj_TW := mj_in 510 (by decide +kernel) rfl
theorem ln_X5_124 : Cond.methodLink RX5 124 yX4_tell ∈ mj_TW := mj_in 514 (by decide +kernel) rfl
theorem ln_X5_270 : Cond.methodLink RX5 270 yX1_become ∈ mj_TW := mj_in 518 (by decide +kernel) rfl
theorem ln_X1_38 : Cond.methodLink RX1 38 yX0_become ∈ mj_TW := mj_in 522 (by decide +kernel) rfl
theorem ln_X1_45 : Cond.methodLink RX1 45 yX2_become ∈ mj_TW := mj_in 526 (by decide +kernel) rfl
theorem ln_X2_22 : Cond.methodLink RX2 22 yX3_become ∈ mj_TW := mj_in 530 (by decide +kernel) rfl
theorem ln_X3_21 : Cond.methodLink RX3 21 ⟨"java/lang/System", "arraycopy", "(Ljava/lang/Object;ILjava/lang/Object;II)V"⟩ ∈ mj_TW := mj_in 534 (by decide +kernel) rfl
theorem ln_X5_128 : Cond.methodLink RX5 128 yX1_passHour ∈ mj_TW := mj_in 537 (by decide +kernel) rfl
theorem ln_X1_161 : Cond.methodLink RX1 161 yX1_clock ∈ mj_TW := mj_in 541 (by decide +kernel) rfl
theorem ln_X1_164 : Cond.methodLink RX1 164 yX2_weatherSnow ∈ mj_TW := mj_in 545 (by decide +kernel) rfl
theorem ln_X2_90 : Cond.methodLink RX2 90 yX3_comeDown ∈ mj_TW := mj_in 549 (by decide +kernel) rfl
theorem ln_X3_65 : Cond.methodLink RX3 65 yX3_topIs ∈ mj_TW := mj_in 553 (by decide +kernel) rfl
theorem ln_X3_69 : Cond.methodLink RX3 69 yX3_thicken ∈ mj_TW := mj_in 557 (by decide +kernel) rfl
theorem ln_X3_72 : Cond.methodLink RX3 72 yX3_lay ∈ mj_TW := mj_in 561 (by decide +kernel) rfl
theorem ln_X3_55 : Cond.methodLink RX3 55 yX3_joinLowest ∈ mj_TW := mj_in 565 (by decide +kernel) rfl
theorem ln_X3_76 : Cond.methodLink RX3 76 yX3_melt ∈ mj_TW := mj_in 569 (by decide +kernel) rfl
theorem ln_X3_51 : Cond.methodLink RX3 51 yX3_thin ∈ mj_TW := mj_in 573 (by decide +kernel) rfl
theorem ln_X2_100 : Cond.methodLink RX2 100 yX3_drift ∈ mj_TW := mj_in 577 (by decide +kernel) rfl
theorem ln_X2_104 : Cond.methodLink RX2 104 yX3_melt ∈ mj_TW := mj_in 581 (by decide +kernel) rfl
theorem ln_X2_108 : Cond.methodLink RX2 108 yX3_freeze ∈ mj_TW := mj_in 582 (by decide +kernel) rfl
theorem ln_X3_79 : Cond.methodLink RX3 79 yX3_changeTop ∈ mj_TW := mj_in 586 (by decide +kernel) rfl
theorem ln_X2_111 : Cond.methodLink RX2 111 yX3_growWeak ∈ mj_TW := mj_in 590 (by decide +kernel) rfl
theorem ln_X2_114 : Cond.methodLink RX2 114 yX3_settle ∈ mj_TW := mj_in 594 (by decide +kernel) rfl
theorem ln_X1_171 : Cond.methodLink RX1 171 yX1_makeSnow ∈ mj_TW := mj_in 598 (by decide +kernel) rfl
theorem ln_X1_194 : Cond.methodLink RX1 194 yJ9_min_7cf53 ∈ mj_TW := mj_in 602 (by decide +kernel) rfl
theorem ln_X1_200 : Cond.methodLink RX1 200 yX3_topIs ∈ mj_TW := mj_in 603 (by decide +kernel) rfl
theorem ln_X1_204 : Cond.methodLink RX1 204 yX3_thicken ∈ mj_TW := mj_in 604 (by decide +kernel) rfl
theorem ln_X1_207 : Cond.methodLink RX1 207 yX3_lay ∈ mj_TW := mj_in 605 (by decide +kernel) rfl
theorem ln_X1_178 : Cond.methodLink RX1 178 yX1_slideOn ∈ mj_TW := mj_in 606 (by decide +kernel) rfl
theorem ln_X1_138 : Cond.methodLink RX1 138 yX2_shear ∈ mj_TW := mj_in 610 (by decide +kernel) rfl
theorem ln_X1_141 : Cond.methodLink RX1 141 yX2_sizeFrom ∈ mj_TW := mj_in 611 (by decide +kernel) rfl
theorem ln_X1_145 : Cond.methodLink RX1 145 yX3_dropFrom ∈ mj_TW := mj_in 612 (by decide +kernel) rfl
theorem ln_X1_182 : Cond.methodLink RX1 182 yX1_holdLifts ∈ mj_TW := mj_in 616 (by decide +kernel) rfl
theorem ln_X1_185 : Cond.methodLink RX1 185 yX1_carrySkiers ∈ mj_TW := mj_in 620 (by decide +kernel) rfl
theorem ln_X1_211 : Cond.methodLink RX1 211 yX1_openRunsOf ∈ mj_TW := mj_in 624 (by decide +kernel) rfl
theorem ln_X1_218 : Cond.methodLink RX1 218 yX1_shareOut ∈ mj_TW := mj_in 628 (by decide +kernel) rfl
theorem ln_X1_221 : Cond.methodLink RX1 221 yX1_skiOn ∈ mj_TW := mj_in 632 (by decide +kernel) rfl
theorem ln_X1_227 : Cond.methodLink RX1 227 yX3_thin ∈ mj_TW := mj_in 636 (by decide +kernel) rfl
theorem ln_X5_277 : Cond.methodLink RX5 277 yJ9_max_7cf53 ∈ mj_TW := mj_in 637 (by decide +kernel) rfl
theorem ln_X5_308 : Cond.methodLink RX5 308 yX5_wouldMake ∈ mj_TW := mj_in 638 (by decide +kernel) rfl
theorem ln_X5_280 : Cond.methodLink RX5 280 yX1_removeGuns ∈ mj_TW := mj_in 642 (by decide +kernel) rfl
theorem ln_X5_311 : Cond.methodLink RX5 311 yX5_ofLift ∈ mj_TW := mj_in 646 (by decide +kernel) rfl
theorem ln_X5_56 : Cond.methodLink RX5 56 yX5_requireLift ∈ mj_TW := mj_in 650 (by decide +kernel) rfl
theorem ln_X5_244 : Cond.methodLink RX5 244 yX1_openRunsOf ∈ mj_TW := mj_in 655 (by decide +kernel) rfl
theorem ln_X5_314 : Cond.methodLink RX5 314 yX5_nextBlast ∈ mj_TW := mj_in 656 (by decide +kernel) rfl
theorem ln_X5_317 : Cond.methodLink RX5 317 yX5_couldOpen ∈ mj_TW := mj_in 657 (by decide +kernel) rfl
theorem ln_L_93 : Cond.methodLink RL 93 yL_lift ∈ mj_TW := mj_in 658 (by decide +kernel) rfl
theorem cl_L_13 : Cond.classLink RL 13 "java/lang/IllegalArgumentException" ∈ mj_TW := mj_in 661 (by decide +kernel) rfl
theorem cl_L_15 : Cond.classLink RL 15 "java/lang/IllegalStateException" ∈ mj_TW := mj_in 662 (by decide +kernel) rfl
theorem ln_L_7 : Cond.methodLink RL 7 yX5_lift ∈ mj_TW := mj_in 663 (by decide +kernel) rfl
theorem cl_X5_37 : Cond.classLink RX5 37 "java/lang/IllegalStateException" ∈ mj_TW := mj_in 667 (by decide +kernel) rfl
theorem ln_X5_41 : Cond.methodLink RX5 41 ⟨"java/lang/IllegalStateException", "<init>", "(Ljava/lang/String;)V"⟩ ∈ mj_TW := mj_in 677 (by decide +kernel) rfl
theorem ln_L_103 : Cond.methodLink RL 103 yL_run ∈ mj_TW := mj_in 683 (by decide +kernel) rfl
theorem cl_L_21 : Cond.classLink RL 21 "java/lang/IndexOutOfBoundsException" ∈ mj_TW := mj_in 686 (by decide +kernel) rfl
theorem ln_L_17 : Cond.methodLink RL 17 yX5_run ∈ mj_TW := mj_in 687 (by decide +kernel) rfl
theorem ln_L_107 : Cond.methodLink RL 107 yL_turn ∈ mj_TW := mj_in 692 (by decide +kernel) rfl
theorem ln_L_23 : Cond.methodLink RL 23 yX5_turn ∈ mj_TW := mj_in 695 (by decide +kernel) rfl
theorem ln_L_111 : Cond.methodLink RL 111 yL_release ∈ mj_TW := mj_in 699 (by decide +kernel) rfl
theorem ln_L_27 : Cond.methodLink RL 27 yX5_release ∈ mj_TW := mj_in 702 (by decide +kernel) rfl
theorem ln_L_115 : Cond.methodLink RL 115 yL_guns ∈ mj_TW := mj_in 707 (by decide +kernel) rfl
theorem ln_L_31 : Cond.methodLink RL 31 yX5_guns ∈ mj_TW := mj_in 710 (by decide +kernel) rfl
theorem ln_L_118 : Cond.methodLink RL 118 yL_fill ∈ mj_TW := mj_in 714 (by decide +kernel) rfl
theorem ln_L_34 : Cond.methodLink RL 34 yX5_fill ∈ mj_TW := mj_in 717 (by decide +kernel) rfl
theorem ln_X5_107 : Cond.methodLink RX5 107 yJ9_min_7cf53 ∈ mj_TW := mj_in 721 (by decide +kernel) rfl
theorem ln_L_121 : Cond.methodLink RL 121 yL_crowd ∈ mj_TW := mj_in 722 (by decide +kernel) rfl
theorem ln_L_38 : Cond.methodLink RL 38 yX5_crowd ∈ mj_TW := mj_in 725 (by decide +kernel) rfl
theorem ln_L_124 : Cond.methodLink RL 124 yL_pass ∈ mj_TW := mj_in 729 (by decide +kernel) rfl
theorem ln_L_41 : Cond.methodLink RL 41 yX5_pass ∈ mj_TW := mj_in 732 (by decide +kernel) rfl
theorem ln_L_128 : Cond.methodLink RL 128 yL_blast ∈ mj_TW := mj_in 737 (by decide +kernel) rfl
theorem ln_L_45 : Cond.methodLink RL 45 yX5_blast ∈ mj_TW := mj_in 740 (by decide +kernel) rfl
theorem ln_X5_132 : Cond.methodLink RX5 132 yX5_requireClosed ∈ mj_TW := mj_in 744 (by decide +kernel) rfl
theorem ln_X5_147 : Cond.methodLink RX5 147 yX1_slideOn ∈ mj_TW := mj_in 750 (by decide +kernel) rfl
theorem ln_L_131 : Cond.methodLink RL 131 yL_search ∈ mj_TW := mj_in 751 (by decide +kernel) rfl
theorem ln_L_48 : Cond.methodLink RL 48 yX5_search ∈ mj_TW := mj_in 754 (by decide +kernel) rfl
theorem ln_L_134 : Cond.methodLink RL 134 yL_test ∈ mj_TW := mj_in 759 (by decide +kernel) rfl
theorem ln_L_51 : Cond.methodLink RL 51 yX5_test ∈ mj_TW := mj_in 762 (by decide +kernel) rfl
theorem ln_L_137 : Cond.methodLink RL 137 yL_sweep ∈ mj_TW := mj_in 766 (by decide +kernel) rfl
theorem ln_L_54 : Cond.methodLink RL 54 yX5_sweep ∈ mj_TW := mj_in 769 (by decide +kernel) rfl
theorem ln_L_140 : Cond.methodLink RL 140 yL_winch ∈ mj_TW := mj_in 773 (by decide +kernel) rfl
theorem ln_L_57 : Cond.methodLink RL 57 yX5_winch ∈ mj_TW := mj_in 776 (by decide +kernel) rfl
theorem ln_L_143 : Cond.methodLink RL 143 yL_groom ∈ mj_TW := mj_in 780 (by decide +kernel) rfl
theorem ln_L_60 : Cond.methodLink RL 60 yX5_groom ∈ mj_TW := mj_in 783 (by decide +kernel) rfl
theorem ln_X5_173 : Cond.methodLink RX5 173 yX1_clock ∈ mj_TW := mj_in 787 (by decide +kernel) rfl
theorem ln_X5_188 : Cond.methodLink RX5 188 yX3_pressTop ∈ mj_TW := mj_in 790 (by decide +kernel) rfl
theorem ln_L_146 : Cond.methodLink RL 146 yL_open ∈ mj_TW := mj_in 794 (by decide +kernel) rfl
theorem ln_L_63 : Cond.methodLink RL 63 yX5_open ∈ mj_TW := mj_in 797 (by decide +kernel) rfl
theorem ln_L_149 : Cond.methodLink RL 149 yL_close ∈ mj_TW := mj_in 801 (by decide +kernel) rfl
theorem ln_L_66 : Cond.methodLink RL 66 yX5_close ∈ mj_TW := mj_in 804 (by decide +kernel) rfl
theorem ln_L_152 : Cond.methodLink RL 152 yL_ofRun ∈ mj_TW := mj_in 809 (by decide +kernel) rfl
theorem ln_L_69 : Cond.methodLink RL 69 yX5_ofRun ∈ mj_TW := mj_in 812 (by decide +kernel) rfl
theorem ln_L_155 : Cond.methodLink RL 155 yL_ofLayer ∈ mj_TW := mj_in 813 (by decide +kernel) rfl
theorem ln_L_72 : Cond.methodLink RL 72 yX5_ofLayer ∈ mj_TW := mj_in 816 (by decide +kernel) rfl
theorem ln_L_159 : Cond.methodLink RL 159 yL_ofLift ∈ mj_TW := mj_in 817 (by decide +kernel) rfl
theorem ln_L_76 : Cond.methodLink RL 76 yX5_ofLift ∈ mj_TW := mj_in 820 (by decide +kernel) rfl
theorem ln_L_162 : Cond.methodLink RL 162 yL_many ∈ mj_TW := mj_in 821 (by decide +kernel) rfl
theorem ln_L_79 : Cond.methodLink RL 79 yX5_many ∈ mj_TW := mj_in 824 (by decide +kernel) rfl
theorem ln_L_170 : Cond.methodLink RL 170 yL_wouldRisk ∈ mj_TW := mj_in 825 (by decide +kernel) rfl
theorem ln_L_82 : Cond.methodLink RL 82 yX5_wouldRisk ∈ mj_TW := mj_in 828 (by decide +kernel) rfl
theorem ln_L_174 : Cond.methodLink RL 174 yL_wouldMake ∈ mj_TW := mj_in 829 (by decide +kernel) rfl
theorem ln_L_86 : Cond.methodLink RL 86 yX5_wouldMake ∈ mj_TW := mj_in 832 (by decide +kernel) rfl
theorem cl_L_90 : Cond.classLink RL 90 RX7 ∈ mj_TW := mj_in 833 (by decide +kernel) rfl
theorem in_X7 : Cond.instantiable RX7 7 ∈ mj_TW ∧ Cond.initialized RX7 ∈ mj_TW := ⟨mj_in 834 (by decide +kernel) rfl, mj_in 7 (by decide +kernel) rfl⟩
theorem ln_L_92 : Cond.methodLink RL 92 yX7_init ∈ mj_TW := mj_in 835 (by decide +kernel) rfl
theorem ln_X7_3 : Cond.methodLink RX7 3 ⟨"java/lang/Object", "<init>", "()V"⟩ ∈ mj_TW := mj_in 838 (by decide +kernel) rfl
theorem cl_X7_9 : Cond.classLink RX7 9 RX6 ∈ mj_TW := mj_in 839 (by decide +kernel) rfl
theorem in_X6 : Cond.instantiable RX6 12 ∈ mj_TW ∧ Cond.initialized RX6 ∈ mj_TW := ⟨mj_in 840 (by decide +kernel) rfl, mj_in 8 (by decide +kernel) rfl⟩
theorem ln_X6_3 : Cond.methodLink RX6 3 ⟨"java/lang/Object", "<init>", "()V"⟩ ∈ mj_TW := mj_in 844 (by decide +kernel) rfl
theorem cl_X6_9 : Cond.classLink RX6 9 RJx4a65c ∈ mj_TW := mj_in 845 (by decide +kernel) rfl
theorem in_Jx4a65c : Cond.instantiable RJx4a65c 3 ∈ mj_TW ∧ Cond.initialized RJx4a65c ∈ mj_TW := ⟨mj_in 846 (by decide +kernel) rfl, mj_in 11 (by decide +kernel) rfl⟩
theorem ln_X6_11 : Cond.methodLink RX6 11 yJx4a65c_init_da8c8 ∈ mj_TW := mj_in 847 (by decide +kernel) rfl
theorem ln_Jx4a65c_1 : Cond.methodLink RJx4a65c 1 yJxc12de_init_da8c8 ∈ mj_TW := mj_in 850 (by decide +kernel) rfl
theorem ln_Jxc12de_1 : Cond.methodLink RJxc12de 1 yJxa1e45_init_da8c8 ∈ mj_TW := mj_in 853 (by decide +kernel) rfl
theorem ln_Jxa1e45_1 : Cond.methodLink RJxa1e45 1 ⟨"java/lang/Object", "<init>", "()V"⟩ ∈ mj_TW := mj_in 856 (by decide +kernel) rfl
theorem ln_L_99 : Cond.methodLink RL 99 yX7_thrown ∈ mj_TW := mj_in 945 (by decide +kernel) rfl
theorem ln_L_98 : Cond.methodLink RL 98 yX7_lift ∈ mj_TW := mj_in 949 (by decide +kernel) rfl
theorem ln_X7_78 : Cond.methodLink RX7 78 yX7_is ∈ mj_TW := mj_in 953 (by decide +kernel) rfl
theorem ln_X7_95 : Cond.methodLink RX7 95 yX7_refuse ∈ mj_TW := mj_in 956 (by decide +kernel) rfl
theorem ln_X7_72 : Cond.methodLink RX7 72 yJx4a65c_size_8abf5 ∈ mj_TW := mj_in 960 (by decide +kernel) rfl
theorem ln_X7_99 : Cond.methodLink RX7 99 yJx4a65c_add_9ea2d ∈ mj_TW := mj_in 964 (by decide +kernel) rfl
theorem ln_Jx4a65c_131 : Cond.methodLink RJx4a65c 131 yJx4a65c_add_72be8 ∈ mj_TW := mj_in 968 (by decide +kernel) rfl
theorem ln_Jx4a65c_129 : Cond.methodLink RJx4a65c 129 yJx4a65c_grow_d5877 ∈ mj_TW := mj_in 972 (by decide +kernel) rfl
theorem ln_Jx4a65c_69 : Cond.methodLink RJx4a65c 69 yJx4a65c_grow_92f84 ∈ mj_TW := mj_in 976 (by decide +kernel) rfl
theorem ln_Jx4a65c_73 : Cond.methodLink RJx4a65c 73 yJ8_newLength_cabcc ∈ mj_TW := mj_in 980 (by decide +kernel) rfl
theorem ln_J8_194 : Cond.methodLink RJ8 194 yJ9_max_7cf53 ∈ mj_TW := mj_in 983 (by decide +kernel) rfl
theorem ct_J8_200 : Cond.constant RJ8 200 (2147483639 : Int32) ∈ mj_TW := mj_in 984 (by decide +kernel) rfl
theorem ln_J8_201 : Cond.methodLink RJ8 201 yJ8_hugeLength_7cf53 ∈ mj_TW := mj_in 985 (by decide +kernel) rfl
theorem ln_Jx4a65c_66 : Cond.methodLink RJx4a65c 66 yJ7_copyOf_1904c ∈ mj_TW := mj_in 988 (by decide +kernel) rfl
theorem ln_J7_86 : Cond.methodLink RJ7 86 ⟨"java/lang/Object", "getClass", "()Ljava/lang/Class;"⟩ ∈ mj_TW := mj_in 991 (by decide +kernel) rfl
theorem ln_J7_300 : Cond.methodLink RJ7 300 yJ7_copyOf_6403c ∈ mj_TW := mj_in 1008 (by decide +kernel) rfl
theorem cl_J7_110 : Cond.classLink RJ7 110 "[Ljava/lang/Object;" ∈ mj_TW := mj_in 1011 (by decide +kernel) rfl
theorem cl_J7_2 : Cond.classLink RJ7 2 "java/lang/Object" ∈ mj_TW := mj_in 1013 (by decide +kernel) rfl
theorem ln_J7_304 : Cond.methodLink RJ7 304 yJ9_min_7cf53 ∈ mj_TW := mj_in 1014 (by decide +kernel) rfl
theorem ln_J7_150 : Cond.methodLink RJ7 150 ⟨"java/lang/System", "arraycopy", "(Ljava/lang/Object;ILjava/lang/Object;II)V"⟩ ∈ mj_TW := mj_in 1015 (by decide +kernel) rfl
theorem ln_Jx4a65c_79 : Cond.methodLink RJx4a65c 79 yJ9_max_7cf53 ∈ mj_TW := mj_in 1016 (by decide +kernel) rfl
theorem cl_Jx4a65c_7 : Cond.classLink RJx4a65c 7 "java/lang/Object" ∈ mj_TW := mj_in 1017 (by decide +kernel) rfl
theorem ln_L_106 : Cond.methodLink RL 106 yX7_run ∈ mj_TW := mj_in 1018 (by decide +kernel) rfl
theorem ln_X7_103 : Cond.methodLink RX7 103 yX7_isLift ∈ mj_TW := mj_in 1022 (by decide +kernel) rfl
theorem ln_L_110 : Cond.methodLink RL 110 yX7_turn ∈ mj_TW := mj_in 1026 (by decide +kernel) rfl
theorem ln_X7_85 : Cond.methodLink RX7 85 yJx4a65c_get_915e3 ∈ mj_TW := mj_in 1030 (by decide +kernel) rfl
theorem ln_Jx4a65c_118 : Cond.methodLink RJx4a65c 118 yJ15_checkIndex_7cf53 ∈ mj_TW := mj_in 1034 (by decide +kernel) rfl
theorem ln_J15_105 : Cond.methodLink RJ15 105 yJ3_checkIndex_8e157 ∈ mj_TW := mj_in 1037 (by decide +kernel) rfl
theorem ln_Jx4a65c_123 : Cond.methodLink RJx4a65c 123 yJx4a65c_elementData_915e3 ∈ mj_TW := mj_in 1040 (by decide +kernel) rfl
theorem cl_X7_89 : Cond.classLink RX7 89 "[I" ∈ mj_TW := mj_in 1044 (by decide +kernel) rfl
theorem ln_L_114 : Cond.methodLink RL 114 yX7_release ∈ mj_TW := mj_in 1045 (by decide +kernel) rfl
theorem ln_L_117 : Cond.methodLink RL 117 yX7_guns ∈ mj_TW := mj_in 1049 (by decide +kernel) rfl
theorem ln_X7_110 : Cond.methodLink RX7 110 yX7_isRun ∈ mj_TW := mj_in 1053 (by decide +kernel) rfl
theorem ln_X7_91 : Cond.methodLink RX7 91 yX7_runAt ∈ mj_TW := mj_in 1057 (by decide +kernel) rfl
theorem ln_L_120 : Cond.methodLink RL 120 yX7_fill ∈ mj_TW := mj_in 1061 (by decide +kernel) rfl
theorem ln_X7_38 : Cond.methodLink RX7 38 yJ9_min_7cf53 ∈ mj_TW := mj_in 1065 (by decide +kernel) rfl
theorem ln_L_123 : Cond.methodLink RL 123 yX7_crowd ∈ mj_TW := mj_in 1066 (by decide +kernel) rfl
theorem ln_L_127 : Cond.methodLink RL 127 yX7_pass ∈ mj_TW := mj_in 1070 (by decide +kernel) rfl
theorem ln_X7_119 : Cond.methodLink RX7 119 yX7_areHours ∈ mj_TW := mj_in 1074 (by decide +kernel) rfl
theorem ln_X7_122 : Cond.methodLink RX7 122 yX7_isWarmth ∈ mj_TW := mj_in 1077 (by decide +kernel) rfl
theorem ln_X7_128 : Cond.methodLink RX7 128 yX6_pass ∈ mj_TW := mj_in 1080 (by decide +kernel) rfl
theorem ln_X6_75 : Cond.methodLink RX6 75 yJx4a65c_size_8abf5 ∈ mj_TW := mj_in 1084 (by decide +kernel) rfl
theorem ln_X6_78 : Cond.methodLink RX6 78 yX6_pass_ ∈ mj_TW := mj_in 1085 (by decide +kernel) rfl
theorem ln_X6_89 : Cond.methodLink RX6 89 yJx4a65c_get_915e3 ∈ mj_TW := mj_in 1089 (by decide +kernel) rfl
theorem cl_X6_43 : Cond.classLink RX6 43 "[I" ∈ mj_TW := mj_in 1090 (by decide +kernel) rfl
theorem ln_X7_26 : Cond.methodLink RX7 26 yX7_top ∈ mj_TW := mj_in 1094 (by decide +kernel) rfl
theorem ln_X7_30 : Cond.methodLink RX7 30 yX7_at ∈ mj_TW := mj_in 1097 (by decide +kernel) rfl
theorem ln_X7_34 : Cond.methodLink RX7 34 yX7_set ∈ mj_TW := mj_in 1103 (by decide +kernel) rfl
theorem ln_X7_44 : Cond.methodLink RX7 44 ⟨"java/lang/System", "arraycopy", "(Ljava/lang/Object;ILjava/lang/Object;II)V"⟩ ∈ mj_TW := mj_in 1109 (by decide +kernel) rfl
theorem ln_X7_50 : Cond.methodLink RX7 50 yX7_put ∈ mj_TW := mj_in 1110 (by decide +kernel) rfl
theorem ln_X6_103 : Cond.methodLink RX6 103 yX6_melt ∈ mj_TW := mj_in 1113 (by decide +kernel) rfl
theorem ln_X7_54 : Cond.methodLink RX7 54 yX7_drop ∈ mj_TW := mj_in 1120 (by decide +kernel) rfl
theorem ln_X6_106 : Cond.methodLink RX6 106 yX6_blow ∈ mj_TW := mj_in 1123 (by decide +kernel) rfl
theorem ln_X6_124 : Cond.methodLink RX6 124 yJ9_min_7cf53 ∈ mj_TW := mj_in 1132 (by decide +kernel) rfl
theorem ln_X6_130 : Cond.methodLink RX6 130 yX6_make ∈ mj_TW := mj_in 1133 (by decide +kernel) rfl
theorem ln_X7_65 : Cond.methodLink RX7 65 yX7_shear ∈ mj_TW := mj_in 1140 (by decide +kernel) rfl
theorem ln_X7_62 : Cond.methodLink RX7 62 yX7_strain ∈ mj_TW := mj_in 1143 (by decide +kernel) rfl
theorem ln_X7_58 : Cond.methodLink RX7 58 yX7_depth ∈ mj_TW := mj_in 1146 (by decide +kernel) rfl
theorem ln_X6_139 : Cond.methodLink RX6 139 yJ9_max_7cf53 ∈ mj_TW := mj_in 1149 (by decide +kernel) rfl
theorem ln_X6_142 : Cond.methodLink RX6 142 yX6_slide ∈ mj_TW := mj_in 1150 (by decide +kernel) rfl
theorem ln_X6_148 : Cond.methodLink RX6 148 yX6_close ∈ mj_TW := mj_in 1159 (by decide +kernel) rfl
theorem ln_X6_29 : Cond.methodLink RX6 29 yJx4a65c_iterator_32c93 ∈ mj_TW := mj_in 1163 (by decide +kernel) rfl
theorem cl_Jx4a65c_267 : Cond.classLink RJx4a65c 267 RJx35411 ∈ mj_TW := mj_in 1167 (by decide +kernel) rfl
theorem in_Jx35411 : Cond.instantiable RJx35411 4 ∈ mj_TW ∧ Cond.initialized RJx35411 ∈ mj_TW := ⟨mj_in 1168 (by decide +kernel) rfl, mj_in 24 (by decide +kernel) rfl⟩
theorem ln_Jx4a65c_269 : Cond.methodLink RJx4a65c 269 yJx35411_init_45d68 ∈ mj_TW := mj_in 1169 (by decide +kernel) rfl
theorem ln_Jx35411_7 : Cond.methodLink RJx35411 7 ⟨"java/lang/Object", "<init>", "()V"⟩ ∈ mj_TW := mj_in 1172 (by decide +kernel) rfl
theorem ln_X6_33 : Cond.methodLink RX6 33 ⟨"java/util/Iterator", "hasNext", "()Z"⟩ ∈ mj_TW := mj_in 1187 (by decide +kernel) rfl
theorem ln_X6_39 : Cond.methodLink RX6 39 ⟨"java/util/Iterator", "next", "()Ljava/lang/Object;"⟩ ∈ mj_TW := mj_in 1197 (by decide +kernel) rfl
theorem ln_Jx35411_31 : Cond.methodLink RJx35411 31 yJx35411_checkForComodification_da8c8 ∈ mj_TW := mj_in 1205 (by decide +kernel) rfl
theorem ln_X6_86 : Cond.methodLink RX6 86 yX6_ride ∈ mj_TW := mj_in 1209 (by decide +kernel) rfl
theorem ln_X6_155 : Cond.methodLink RX6 155 yX6_opened ∈ mj_TW := mj_in 1213 (by decide +kernel) rfl
theorem ln_X6_159 : Cond.methodLink RX6 159 yX6_ski ∈ mj_TW := mj_in 1217 (by decide +kernel) rfl
theorem ln_L_130 : Cond.methodLink RL 130 yX7_blast ∈ mj_TW := mj_in 1221 (by decide +kernel) rfl
theorem ln_X7_132 : Cond.methodLink RX7 132 yX7_isOpen ∈ mj_TW := mj_in 1225 (by decide +kernel) rfl
theorem ln_X7_138 : Cond.methodLink RX7 138 yX7_risk ∈ mj_TW := mj_in 1229 (by decide +kernel) rfl
theorem ln_X7_141 : Cond.methodLink RX7 141 yX6_slide ∈ mj_TW := mj_in 1230 (by decide +kernel) rfl
theorem ln_L_133 : Cond.methodLink RL 133 yX7_search ∈ mj_TW := mj_in 1231 (by decide +kernel) rfl
theorem ln_L_136 : Cond.methodLink RL 136 yX7_test ∈ mj_TW := mj_in 1235 (by decide +kernel) rfl
theorem ln_X7_147 : Cond.methodLink RX7 147 yX7_tells ∈ mj_TW := mj_in 1239 (by decide +kernel) rfl
theorem ln_X7_144 : Cond.methodLink RX7 144 yJ9_max_7cf53 ∈ mj_TW := mj_in 1243 (by decide +kernel) rfl
theorem ln_L_139 : Cond.methodLink RL 139 yX7_sweep ∈ mj_TW := mj_in 1244 (by decide +kernel) rfl
theorem ln_L_142 : Cond.methodLink RL 142 yX7_winch ∈ mj_TW := mj_in 1248 (by decide +kernel) rfl
theorem ln_L_145 : Cond.methodLink RL 145 yX7_groom ∈ mj_TW := mj_in 1252 (by decide +kernel) rfl
theorem ln_X7_150 : Cond.methodLink RX7 150 yX7_add ∈ mj_TW := mj_in 1256 (by decide +kernel) rfl
theorem ln_L_148 : Cond.methodLink RL 148 yX7_open ∈ mj_TW := mj_in 1257 (by decide +kernel) rfl
theorem ln_X7_159 : Cond.methodLink RX7 159 yX7_bars ∈ mj_TW := mj_in 1261 (by decide +kernel) rfl
theorem ln_X7_152 : Cond.methodLink RX7 152 yX7_isTested ∈ mj_TW := mj_in 1265 (by decide +kernel) rfl
theorem ln_X7_155 : Cond.methodLink RX7 155 yX7_barsBelow ∈ mj_TW := mj_in 1269 (by decide +kernel) rfl
theorem ln_L_151 : Cond.methodLink RL 151 yX7_close ∈ mj_TW := mj_in 1273 (by decide +kernel) rfl
theorem ln_X7_162 : Cond.methodLink RX7 162 yX6_close ∈ mj_TW := mj_in 1277 (by decide +kernel) rfl
theorem ln_L_154 : Cond.methodLink RL 154 yX7_ofRun ∈ mj_TW := mj_in 1278 (by decide +kernel) rfl
theorem ln_X7_166 : Cond.methodLink RX7 166 yX7_ofRunNow ∈ mj_TW := mj_in 1282 (by decide +kernel) rfl
theorem ln_L_158 : Cond.methodLink RL 158 yX7_ofLayer ∈ mj_TW := mj_in 1286 (by decide +kernel) rfl
theorem ln_L_161 : Cond.methodLink RL 161 yX7_ofLift ∈ mj_TW := mj_in 1290 (by decide +kernel) rfl
theorem ln_X7_172 : Cond.methodLink RX7 172 yX7_ofLiftNow ∈ mj_TW := mj_in 1294 (by decide +kernel) rfl
theorem ln_X7_169 : Cond.methodLink RX7 169 yX6_opened ∈ mj_TW := mj_in 1298 (by decide +kernel) rfl
theorem ln_L_164 : Cond.methodLink RL 164 yX7_many ∈ mj_TW := mj_in 1299 (by decide +kernel) rfl
theorem ln_X7_204 : Cond.methodLink RX7 204 yX7_manyNow ∈ mj_TW := mj_in 1303 (by decide +kernel) rfl
theorem ln_X7_175 : Cond.methodLink RX7 175 yJx4a65c_iterator_32c93 ∈ mj_TW := mj_in 1307 (by decide +kernel) rfl
theorem ln_X7_179 : Cond.methodLink RX7 179 ⟨"java/util/Iterator", "hasNext", "()Z"⟩ ∈ mj_TW := mj_in 1309 (by decide +kernel) rfl
theorem ln_X7_185 : Cond.methodLink RX7 185 ⟨"java/util/Iterator", "next", "()Ljava/lang/Object;"⟩ ∈ mj_TW := mj_in 1311 (by decide +kernel) rfl
theorem ln_L_169 : Cond.methodLink RL 169 yX7_meanDepth ∈ mj_TW := mj_in 1312 (by decide +kernel) rfl
theorem ln_L_173 : Cond.methodLink RL 173 yX7_wouldRisk ∈ mj_TW := mj_in 1316 (by decide +kernel) rfl
theorem ln_X7_217 : Cond.methodLink RX7 217 yX7_riskNow ∈ mj_TW := mj_in 1320 (by decide +kernel) rfl
theorem ln_X7_207 : Cond.methodLink RX7 207 yX6_copy ∈ mj_TW := mj_in 1324 (by decide +kernel) rfl
theorem cl_X6_13 : Cond.classLink RX6 13 RX6 ∈ mj_TW := mj_in 1328 (by decide +kernel) rfl
theorem ln_X6_28 : Cond.methodLink RX6 28 yX6_init ∈ mj_TW := mj_in 1329 (by decide +kernel) rfl
theorem ln_X6_45 : Cond.methodLink RX6 45 ⟨"[I", "clone", "()Ljava/lang/Object;"⟩ ∈ mj_TW := mj_in 1330 (by decide +kernel) rfl
theorem ln_X6_48 : Cond.methodLink RX6 48 yJx4a65c_add_9ea2d ∈ mj_TW := mj_in 1336 (by decide +kernel) rfl
theorem ln_L_176 : Cond.methodLink RL 176 yX7_wouldMake ∈ mj_TW := mj_in 1337 (by decide +kernel) rfl
theorem ln_X7_224 : Cond.methodLink RX7 224 yX7_makeNow ∈ mj_TW := mj_in 1341 (by decide +kernel) rfl
theorem ln_X7_221 : Cond.methodLink RX7 221 yX7_depthWith ∈ mj_TW := mj_in 1345 (by decide +kernel) rfl
theorem ln_L_180 : Cond.methodLink RL 180 yX7_nextBlast ∈ mj_TW := mj_in 1349 (by decide +kernel) rfl
theorem ln_X7_229 : Cond.methodLink RX7 229 yX7_nextNow ∈ mj_TW := mj_in 1353 (by decide +kernel) rfl
theorem ln_X7_227 : Cond.methodLink RX7 227 yX7_size ∈ mj_TW := mj_in 1357 (by decide +kernel) rfl
theorem ln_L_184 : Cond.methodLink RL 184 yX7_couldOpen ∈ mj_TW := mj_in 1358 (by decide +kernel) rfl
theorem ln_X7_232 : Cond.methodLink RX7 232 yX7_couldNow ∈ mj_TW := mj_in 1362 (by decide +kernel) rfl
theorem ln_L_189 : Cond.methodLink RL 189 yX7_digest ∈ mj_TW := mj_in 1366 (by decide +kernel) rfl
theorem ct_X7_241 : Cond.constantLong RX7 241 (58212 : Int64) ∈ mj_TW := mj_in 1370 (by decide +kernel) rfl
theorem ln_X7_243 : Cond.methodLink RX7 243 yX7_add_ ∈ mj_TW := mj_in 1371 (by decide +kernel) rfl
theorem ct_X7_239 : Cond.constantLong RX7 239 (31 : Int64) ∈ mj_TW := mj_in 1375 (by decide +kernel) rfl
theorem aw_int : Cond.arrayClass .int ∈ mj_TW := mj_in 108 (by decide +kernel) rfl
theorem aw_long : Cond.arrayClass .long ∈ mj_TW := mj_in 1376 (by decide +kernel) rfl

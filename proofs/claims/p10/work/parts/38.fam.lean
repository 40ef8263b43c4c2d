/-! MEMBERS OF THE FAMILIES -/
theorem ga_len {G : Nat → Nat → Option Nat} {F : fl_N} {X : xi_H} : (fl_H sh_T G F ++ X).length = 387 + X.length := by
  rw [List.length_append, fl_len]
  have h : sh_T.length = 387 := by decide +kernel
  rw [h]
def nd (a : Nat) : Prop := (sh_T[a]? = some (2, 9, [1, 1, 0, a + 1 + 3, 0]) ∧ sh_T[a + 1]? = some (0, 0, [4])) ∧ (gb a 0 = (-9223372036854775808, 9223372036854775807) ∧ gb a 1 = (-9223372036854775808, 9223372036854775807) ∧ gb a 2 = (0, 1) ∧ gb a 4 = (0, 4) ∧ gb_T[a + 1]? = some (0, [(0, 39)])) ∧ 123 ≤ a ∧ a + 1 ≤ 330
theorem nd_sp {a : Nat} (h : sp a) : nd (a + 2) := ⟨⟨h.1.2.2.1, h.1.2.2.2.1⟩, ⟨h.2.1.2.2.2.2.2.2.1, h.2.1.2.2.2.2.2.2.2.1, h.2.1.2.2.2.2.2.2.2.2.1, h.2.1.2.2.2.2.2.2.2.2.2.1, h.2.1.2.2.2.2.2.2.2.2.2.2.1⟩, by have := h.2.2; omega, by have := h.2.2; omega⟩
theorem nd_123 : nd 123 := by unfold nd; decide +kernel
theorem nm_8 : nm 8 4 := by unfold nm; decide +kernel
theorem nm_11 : nm 11 6 := by unfold nm; decide +kernel
theorem nm_15 : nm 15 5 := by unfold nm; decide +kernel
theorem nm_21 : nm 21 2 := by unfold nm; decide +kernel
theorem nm_24 : nm 24 2 := by unfold nm; decide +kernel
theorem nm_27 : nm 27 2 := by unfold nm; decide +kernel
theorem nm_30 : nm 30 2 := by unfold nm; decide +kernel
theorem nm_33 : nm 33 2 := by unfold nm; decide +kernel
theorem nm_36 : nm 36 2 := by unfold nm; decide +kernel
theorem nm_39 : nm 39 3 := by unfold nm; decide +kernel
theorem cl_42 : cl 42 4 2 (-1) := ⟨⟨by decide +kernel, by decide +kernel, by decide +kernel, by decide +kernel, by decide +kernel⟩, ⟨by decide +kernel, by decide +kernel, by decide +kernel, by decide +kernel, by decide +kernel, by decide +kernel⟩, by decide +kernel, by decide +kernel, by decide +kernel, by decide +kernel, by decide +kernel, by decide +kernel, by decide +kernel, by decide +kernel⟩
theorem cl_47 : cl 47 4 2 0 := ⟨⟨by decide +kernel, by decide +kernel, by decide +kernel, by decide +kernel, by decide +kernel⟩, ⟨by decide +kernel, by decide +kernel, by decide +kernel, by decide +kernel, by decide +kernel, by decide +kernel⟩, by decide +kernel, by decide +kernel, by decide +kernel, by decide +kernel, by decide +kernel, by decide +kernel, by decide +kernel, by decide +kernel⟩
theorem nm_52 : nm 52 3 := by unfold nm; decide +kernel
theorem cl_55 : cl 55 4 2 (-1) := ⟨⟨by decide +kernel, by decide +kernel, by decide +kernel, by decide +kernel, by decide +kernel⟩, ⟨by decide +kernel, by decide +kernel, by decide +kernel, by decide +kernel, by decide +kernel, by decide +kernel⟩, by decide +kernel, by decide +kernel, by decide +kernel, by decide +kernel, by decide +kernel, by decide +kernel, by decide +kernel, by decide +kernel⟩
theorem cl_60 : cl 60 4 2 0 := ⟨⟨by decide +kernel, by decide +kernel, by decide +kernel, by decide +kernel, by decide +kernel⟩, ⟨by decide +kernel, by decide +kernel, by decide +kernel, by decide +kernel, by decide +kernel, by decide +kernel⟩, by decide +kernel, by decide +kernel, by decide +kernel, by decide +kernel, by decide +kernel, by decide +kernel, by decide +kernel, by decide +kernel⟩
theorem nm_65 : nm 65 3 := by unfold nm; decide +kernel
theorem cl_68 : cl 68 4 2 (-1) := ⟨⟨by decide +kernel, by decide +kernel, by decide +kernel, by decide +kernel, by decide +kernel⟩, ⟨by decide +kernel, by decide +kernel, by decide +kernel, by decide +kernel, by decide +kernel, by decide +kernel⟩, by decide +kernel, by decide +kernel, by decide +kernel, by decide +kernel, by decide +kernel, by decide +kernel, by decide +kernel, by decide +kernel⟩
theorem cl_73 : cl 73 4 2 0 := ⟨⟨by decide +kernel, by decide +kernel, by decide +kernel, by decide +kernel, by decide +kernel⟩, ⟨by decide +kernel, by decide +kernel, by decide +kernel, by decide +kernel, by decide +kernel, by decide +kernel⟩, by decide +kernel, by decide +kernel, by decide +kernel, by decide +kernel, by decide +kernel, by decide +kernel, by decide +kernel, by decide +kernel⟩
theorem nm_78 : nm 78 3 := by unfold nm; decide +kernel
theorem cl_81 : cl 81 4 2 (-1) := ⟨⟨by decide +kernel, by decide +kernel, by decide +kernel, by decide +kernel, by decide +kernel⟩, ⟨by decide +kernel, by decide +kernel, by decide +kernel, by decide +kernel, by decide +kernel, by decide +kernel⟩, by decide +kernel, by decide +kernel, by decide +kernel, by decide +kernel, by decide +kernel, by decide +kernel, by decide +kernel, by decide +kernel⟩
theorem cl_86 : cl 86 4 2 0 := ⟨⟨by decide +kernel, by decide +kernel, by decide +kernel, by decide +kernel, by decide +kernel⟩, ⟨by decide +kernel, by decide +kernel, by decide +kernel, by decide +kernel, by decide +kernel, by decide +kernel⟩, by decide +kernel, by decide +kernel, by decide +kernel, by decide +kernel, by decide +kernel, by decide +kernel, by decide +kernel, by decide +kernel⟩
theorem nm_91 : nm 91 3 := by unfold nm; decide +kernel
theorem cl_94 : cl 94 4 2 (-1) := ⟨⟨by decide +kernel, by decide +kernel, by decide +kernel, by decide +kernel, by decide +kernel⟩, ⟨by decide +kernel, by decide +kernel, by decide +kernel, by decide +kernel, by decide +kernel, by decide +kernel⟩, by decide +kernel, by decide +kernel, by decide +kernel, by decide +kernel, by decide +kernel, by decide +kernel, by decide +kernel, by decide +kernel⟩
theorem cl_99 : cl 99 4 2 0 := ⟨⟨by decide +kernel, by decide +kernel, by decide +kernel, by decide +kernel, by decide +kernel⟩, ⟨by decide +kernel, by decide +kernel, by decide +kernel, by decide +kernel, by decide +kernel, by decide +kernel⟩, by decide +kernel, by decide +kernel, by decide +kernel, by decide +kernel, by decide +kernel, by decide +kernel, by decide +kernel, by decide +kernel⟩
theorem nm_105 : nm 105 6 := by unfold nm; decide +kernel
theorem cl_108 : cl 108 12 5 0 := ⟨⟨by decide +kernel, by decide +kernel, by decide +kernel, by decide +kernel, by decide +kernel⟩, ⟨by decide +kernel, by decide +kernel, by decide +kernel, by decide +kernel, by decide +kernel, by decide +kernel⟩, by decide +kernel, by decide +kernel, by decide +kernel, by decide +kernel, by decide +kernel, by decide +kernel, by decide +kernel, by decide +kernel⟩
theorem cl_113 : cl 113 4 5 (-1) := ⟨⟨by decide +kernel, by decide +kernel, by decide +kernel, by decide +kernel, by decide +kernel⟩, ⟨by decide +kernel, by decide +kernel, by decide +kernel, by decide +kernel, by decide +kernel, by decide +kernel⟩, by decide +kernel, by decide +kernel, by decide +kernel, by decide +kernel, by decide +kernel, by decide +kernel, by decide +kernel, by decide +kernel⟩
theorem sp_126 : sp 126 := ⟨⟨by decide +kernel, by decide +kernel, by decide +kernel, by decide +kernel, by decide +kernel⟩, ⟨by decide +kernel, by decide +kernel, by decide +kernel, by decide +kernel, by decide +kernel, by decide +kernel, by decide +kernel, by decide +kernel, by decide +kernel, by decide +kernel, by decide +kernel, by decide +kernel⟩, by decide +kernel, by decide +kernel⟩
theorem sp_131 : sp 131 := ⟨⟨by decide +kernel, by decide +kernel, by decide +kernel, by decide +kernel, by decide +kernel⟩, ⟨by decide +kernel, by decide +kernel, by decide +kernel, by decide +kernel, by decide +kernel, by decide +kernel, by decide +kernel, by decide +kernel, by decide +kernel, by decide +kernel, by decide +kernel, by decide +kernel⟩, by decide +kernel, by decide +kernel⟩
theorem sp_136 : sp 136 := ⟨⟨by decide +kernel, by decide +kernel, by decide +kernel, by decide +kernel, by decide +kernel⟩, ⟨by decide +kernel, by decide +kernel, by decide +kernel, by decide +kernel, by decide +kernel, by decide +kernel, by decide +kernel, by decide +kernel, by decide +kernel, by decide +kernel, by decide +kernel, by decide +kernel⟩, by decide +kernel, by decide +kernel⟩
theorem sp_141 : sp 141 := ⟨⟨by decide +kernel, by decide +kernel, by decide +kernel, by decide +kernel, by decide +kernel⟩, ⟨by decide +kernel, by decide +kernel, by decide +kernel, by decide +kernel, by decide +kernel, by decide +kernel, by decide +kernel, by decide +kernel, by decide +kernel, by decide +kernel, by decide +kernel, by decide +kernel⟩, by decide +kernel, by decide +kernel⟩
theorem sp_146 : sp 146 := ⟨⟨by decide +kernel, by decide +kernel, by decide +kernel, by decide +kernel, by decide +kernel⟩, ⟨by decide +kernel, by decide +kernel, by decide +kernel, by decide +kernel, by decide +kernel, by decide +kernel, by decide +kernel, by decide +kernel, by decide +kernel, by decide +kernel, by decide +kernel, by decide +kernel⟩, by decide +kernel, by decide +kernel⟩
theorem sp_151 : sp 151 := ⟨⟨by decide +kernel, by decide +kernel, by decide +kernel, by decide +kernel, by decide +kernel⟩, ⟨by decide +kernel, by decide +kernel, by decide +kernel, by decide +kernel, by decide +kernel, by decide +kernel, by decide +kernel, by decide +kernel, by decide +kernel, by decide +kernel, by decide +kernel, by decide +kernel⟩, by decide +kernel, by decide +kernel⟩
theorem sp_156 : sp 156 := ⟨⟨by decide +kernel, by decide +kernel, by decide +kernel, by decide +kernel, by decide +kernel⟩, ⟨by decide +kernel, by decide +kernel, by decide +kernel, by decide +kernel, by decide +kernel, by decide +kernel, by decide +kernel, by decide +kernel, by decide +kernel, by decide +kernel, by decide +kernel, by decide +kernel⟩, by decide +kernel, by decide +kernel⟩
theorem sp_161 : sp 161 := ⟨⟨by decide +kernel, by decide +kernel, by decide +kernel, by decide +kernel, by decide +kernel⟩, ⟨by decide +kernel, by decide +kernel, by decide +kernel, by decide +kernel, by decide +kernel, by decide +kernel, by decide +kernel, by decide +kernel, by decide +kernel, by decide +kernel, by decide +kernel, by decide +kernel⟩, by decide +kernel, by decide +kernel⟩
theorem sp_166 : sp 166 := ⟨⟨by decide +kernel, by decide +kernel, by decide +kernel, by decide +kernel, by decide +kernel⟩, ⟨by decide +kernel, by decide +kernel, by decide +kernel, by decide +kernel, by decide +kernel, by decide +kernel, by decide +kernel, by decide +kernel, by decide +kernel, by decide +kernel, by decide +kernel, by decide +kernel⟩, by decide +kernel, by decide +kernel⟩
theorem sp_171 : sp 171 := ⟨⟨by decide +kernel, by decide +kernel, by decide +kernel, by decide +kernel, by decide +kernel⟩, ⟨by decide +kernel, by decide +kernel, by decide +kernel, by decide +kernel, by decide +kernel, by decide +kernel, by decide +kernel, by decide +kernel, by decide +kernel, by decide +kernel, by decide +kernel, by decide +kernel⟩, by decide +kernel, by decide +kernel⟩
theorem sp_176 : sp 176 := ⟨⟨by decide +kernel, by decide +kernel, by decide +kernel, by decide +kernel, by decide +kernel⟩, ⟨by decide +kernel, by decide +kernel, by decide +kernel, by decide +kernel, by decide +kernel, by decide +kernel, by decide +kernel, by decide +kernel, by decide +kernel, by decide +kernel, by decide +kernel, by decide +kernel⟩, by decide +kernel, by decide +kernel⟩
theorem sp_181 : sp 181 := ⟨⟨by decide +kernel, by decide +kernel, by decide +kernel, by decide +kernel, by decide +kernel⟩, ⟨by decide +kernel, by decide +kernel, by decide +kernel, by decide +kernel, by decide +kernel, by decide +kernel, by decide +kernel, by decide +kernel, by decide +kernel, by decide +kernel, by decide +kernel, by decide +kernel⟩, by decide +kernel, by decide +kernel⟩
theorem sp_186 : sp 186 := ⟨⟨by decide +kernel, by decide +kernel, by decide +kernel, by decide +kernel, by decide +kernel⟩, ⟨by decide +kernel, by decide +kernel, by decide +kernel, by decide +kernel, by decide +kernel, by decide +kernel, by decide +kernel, by decide +kernel, by decide +kernel, by decide +kernel, by decide +kernel, by decide +kernel⟩, by decide +kernel, by decide +kernel⟩
theorem sp_191 : sp 191 := ⟨⟨by decide +kernel, by decide +kernel, by decide +kernel, by decide +kernel, by decide +kernel⟩, ⟨by decide +kernel, by decide +kernel, by decide +kernel, by decide +kernel, by decide +kernel, by decide +kernel, by decide +kernel, by decide +kernel, by decide +kernel, by decide +kernel, by decide +kernel, by decide +kernel⟩, by decide +kernel, by decide +kernel⟩
theorem sp_196 : sp 196 := ⟨⟨by decide +kernel, by decide +kernel, by decide +kernel, by decide +kernel, by decide +kernel⟩, ⟨by decide +kernel, by decide +kernel, by decide +kernel, by decide +kernel, by decide +kernel, by decide +kernel, by decide +kernel, by decide +kernel, by decide +kernel, by decide +kernel, by decide +kernel, by decide +kernel⟩, by decide +kernel, by decide +kernel⟩
theorem sp_201 : sp 201 := ⟨⟨by decide +kernel, by decide +kernel, by decide +kernel, by decide +kernel, by decide +kernel⟩, ⟨by decide +kernel, by decide +kernel, by decide +kernel, by decide +kernel, by decide +kernel, by decide +kernel, by decide +kernel, by decide +kernel, by decide +kernel, by decide +kernel, by decide +kernel, by decide +kernel⟩, by decide +kernel, by decide +kernel⟩
theorem sp_206 : sp 206 := ⟨⟨by decide +kernel, by decide +kernel, by decide +kernel, by decide +kernel, by decide +kernel⟩, ⟨by decide +kernel, by decide +kernel, by decide +kernel, by decide +kernel, by decide +kernel, by decide +kernel, by decide +kernel, by decide +kernel, by decide +kernel, by decide +kernel, by decide +kernel, by decide +kernel⟩, by decide +kernel, by decide +kernel⟩
theorem sp_211 : sp 211 := ⟨⟨by decide +kernel, by decide +kernel, by decide +kernel, by decide +kernel, by decide +kernel⟩, ⟨by decide +kernel, by decide +kernel, by decide +kernel, by decide +kernel, by decide +kernel, by decide +kernel, by decide +kernel, by decide +kernel, by decide +kernel, by decide +kernel, by decide +kernel, by decide +kernel⟩, by decide +kernel, by decide +kernel⟩
theorem sp_216 : sp 216 := ⟨⟨by decide +kernel, by decide +kernel, by decide +kernel, by decide +kernel, by decide +kernel⟩, ⟨by decide +kernel, by decide +kernel, by decide +kernel, by decide +kernel, by decide +kernel, by decide +kernel, by decide +kernel, by decide +kernel, by decide +kernel, by decide +kernel, by decide +kernel, by decide +kernel⟩, by decide +kernel, by decide +kernel⟩
theorem sp_221 : sp 221 := ⟨⟨by decide +kernel, by decide +kernel, by decide +kernel, by decide +kernel, by decide +kernel⟩, ⟨by decide +kernel, by decide +kernel, by decide +kernel, by decide +kernel, by decide +kernel, by decide +kernel, by decide +kernel, by decide +kernel, by decide +kernel, by decide +kernel, by decide +kernel, by decide +kernel⟩, by decide +kernel, by decide +kernel⟩
theorem sp_226 : sp 226 := ⟨⟨by decide +kernel, by decide +kernel, by decide +kernel, by decide +kernel, by decide +kernel⟩, ⟨by decide +kernel, by decide +kernel, by decide +kernel, by decide +kernel, by decide +kernel, by decide +kernel, by decide +kernel, by decide +kernel, by decide +kernel, by decide +kernel, by decide +kernel, by decide +kernel⟩, by decide +kernel, by decide +kernel⟩
theorem sp_231 : sp 231 := ⟨⟨by decide +kernel, by decide +kernel, by decide +kernel, by decide +kernel, by decide +kernel⟩, ⟨by decide +kernel, by decide +kernel, by decide +kernel, by decide +kernel, by decide +kernel, by decide +kernel, by decide +kernel, by decide +kernel, by decide +kernel, by decide +kernel, by decide +kernel, by decide +kernel⟩, by decide +kernel, by decide +kernel⟩
theorem sp_236 : sp 236 := ⟨⟨by decide +kernel, by decide +kernel, by decide +kernel, by decide +kernel, by decide +kernel⟩, ⟨by decide +kernel, by decide +kernel, by decide +kernel, by decide +kernel, by decide +kernel, by decide +kernel, by decide +kernel, by decide +kernel, by decide +kernel, by decide +kernel, by decide +kernel, by decide +kernel⟩, by decide +kernel, by decide +kernel⟩
theorem sp_241 : sp 241 := ⟨⟨by decide +kernel, by decide +kernel, by decide +kernel, by decide +kernel, by decide +kernel⟩, ⟨by decide +kernel, by decide +kernel, by decide +kernel, by decide +kernel, by decide +kernel, by decide +kernel, by decide +kernel, by decide +kernel, by decide +kernel, by decide +kernel, by decide +kernel, by decide +kernel⟩, by decide +kernel, by decide +kernel⟩
theorem sp_246 : sp 246 := ⟨⟨by decide +kernel, by decide +kernel, by decide +kernel, by decide +kernel, by decide +kernel⟩, ⟨by decide +kernel, by decide +kernel, by decide +kernel, by decide +kernel, by decide +kernel, by decide +kernel, by decide +kernel, by decide +kernel, by decide +kernel, by decide +kernel, by decide +kernel, by decide +kernel⟩, by decide +kernel, by decide +kernel⟩
theorem sp_251 : sp 251 := ⟨⟨by decide +kernel, by decide +kernel, by decide +kernel, by decide +kernel, by decide +kernel⟩, ⟨by decide +kernel, by decide +kernel, by decide +kernel, by decide +kernel, by decide +kernel, by decide +kernel, by decide +kernel, by decide +kernel, by decide +kernel, by decide +kernel, by decide +kernel, by decide +kernel⟩, by decide +kernel, by decide +kernel⟩
theorem sp_256 : sp 256 := ⟨⟨by decide +kernel, by decide +kernel, by decide +kernel, by decide +kernel, by decide +kernel⟩, ⟨by decide +kernel, by decide +kernel, by decide +kernel, by decide +kernel, by decide +kernel, by decide +kernel, by decide +kernel, by decide +kernel, by decide +kernel, by decide +kernel, by decide +kernel, by decide +kernel⟩, by decide +kernel, by decide +kernel⟩
theorem sp_261 : sp 261 := ⟨⟨by decide +kernel, by decide +kernel, by decide +kernel, by decide +kernel, by decide +kernel⟩, ⟨by decide +kernel, by decide +kernel, by decide +kernel, by decide +kernel, by decide +kernel, by decide +kernel, by decide +kernel, by decide +kernel, by decide +kernel, by decide +kernel, by decide +kernel, by decide +kernel⟩, by decide +kernel, by decide +kernel⟩
theorem sp_266 : sp 266 := ⟨⟨by decide +kernel, by decide +kernel, by decide +kernel, by decide +kernel, by decide +kernel⟩, ⟨by decide +kernel, by decide +kernel, by decide +kernel, by decide +kernel, by decide +kernel, by decide +kernel, by decide +kernel, by decide +kernel, by decide +kernel, by decide +kernel, by decide +kernel, by decide +kernel⟩, by decide +kernel, by decide +kernel⟩
theorem sp_271 : sp 271 := ⟨⟨by decide +kernel, by decide +kernel, by decide +kernel, by decide +kernel, by decide +kernel⟩, ⟨by decide +kernel, by decide +kernel, by decide +kernel, by decide +kernel, by decide +kernel, by decide +kernel, by decide +kernel, by decide +kernel, by decide +kernel, by decide +kernel, by decide +kernel, by decide +kernel⟩, by decide +kernel, by decide +kernel⟩
theorem sp_276 : sp 276 := ⟨⟨by decide +kernel, by decide +kernel, by decide +kernel, by decide +kernel, by decide +kernel⟩, ⟨by decide +kernel, by decide +kernel, by decide +kernel, by decide +kernel, by decide +kernel, by decide +kernel, by decide +kernel, by decide +kernel, by decide +kernel, by decide +kernel, by decide +kernel, by decide +kernel⟩, by decide +kernel, by decide +kernel⟩
theorem sp_281 : sp 281 := ⟨⟨by decide +kernel, by decide +kernel, by decide +kernel, by decide +kernel, by decide +kernel⟩, ⟨by decide +kernel, by decide +kernel, by decide +kernel, by decide +kernel, by decide +kernel, by decide +kernel, by decide +kernel, by decide +kernel, by decide +kernel, by decide +kernel, by decide +kernel, by decide +kernel⟩, by decide +kernel, by decide +kernel⟩
theorem sp_286 : sp 286 := ⟨⟨by decide +kernel, by decide +kernel, by decide +kernel, by decide +kernel, by decide +kernel⟩, ⟨by decide +kernel, by decide +kernel, by decide +kernel, by decide +kernel, by decide +kernel, by decide +kernel, by decide +kernel, by decide +kernel, by decide +kernel, by decide +kernel, by decide +kernel, by decide +kernel⟩, by decide +kernel, by decide +kernel⟩
theorem sp_291 : sp 291 := ⟨⟨by decide +kernel, by decide +kernel, by decide +kernel, by decide +kernel, by decide +kernel⟩, ⟨by decide +kernel, by decide +kernel, by decide +kernel, by decide +kernel, by decide +kernel, by decide +kernel, by decide +kernel, by decide +kernel, by decide +kernel, by decide +kernel, by decide +kernel, by decide +kernel⟩, by decide +kernel, by decide +kernel⟩
theorem sp_296 : sp 296 := ⟨⟨by decide +kernel, by decide +kernel, by decide +kernel, by decide +kernel, by decide +kernel⟩, ⟨by decide +kernel, by decide +kernel, by decide +kernel, by decide +kernel, by decide +kernel, by decide +kernel, by decide +kernel, by decide +kernel, by decide +kernel, by decide +kernel, by decide +kernel, by decide +kernel⟩, by decide +kernel, by decide +kernel⟩
theorem sp_301 : sp 301 := ⟨⟨by decide +kernel, by decide +kernel, by decide +kernel, by decide +kernel, by decide +kernel⟩, ⟨by decide +kernel, by decide +kernel, by decide +kernel, by decide +kernel, by decide +kernel, by decide +kernel, by decide +kernel, by decide +kernel, by decide +kernel, by decide +kernel, by decide +kernel, by decide +kernel⟩, by decide +kernel, by decide +kernel⟩
theorem sp_306 : sp 306 := ⟨⟨by decide +kernel, by decide +kernel, by decide +kernel, by decide +kernel, by decide +kernel⟩, ⟨by decide +kernel, by decide +kernel, by decide +kernel, by decide +kernel, by decide +kernel, by decide +kernel, by decide +kernel, by decide +kernel, by decide +kernel, by decide +kernel, by decide +kernel, by decide +kernel⟩, by decide +kernel, by decide +kernel⟩
theorem sp_311 : sp 311 := ⟨⟨by decide +kernel, by decide +kernel, by decide +kernel, by decide +kernel, by decide +kernel⟩, ⟨by decide +kernel, by decide +kernel, by decide +kernel, by decide +kernel, by decide +kernel, by decide +kernel, by decide +kernel, by decide +kernel, by decide +kernel, by decide +kernel, by decide +kernel, by decide +kernel⟩, by decide +kernel, by decide +kernel⟩
theorem sp_316 : sp 316 := ⟨⟨by decide +kernel, by decide +kernel, by decide +kernel, by decide +kernel, by decide +kernel⟩, ⟨by decide +kernel, by decide +kernel, by decide +kernel, by decide +kernel, by decide +kernel, by decide +kernel, by decide +kernel, by decide +kernel, by decide +kernel, by decide +kernel, by decide +kernel, by decide +kernel⟩, by decide +kernel, by decide +kernel⟩
theorem sp_321 : sp 321 := ⟨⟨by decide +kernel, by decide +kernel, by decide +kernel, by decide +kernel, by decide +kernel⟩, ⟨by decide +kernel, by decide +kernel, by decide +kernel, by decide +kernel, by decide +kernel, by decide +kernel, by decide +kernel, by decide +kernel, by decide +kernel, by decide +kernel, by decide +kernel, by decide +kernel⟩, by decide +kernel, by decide +kernel⟩
theorem sp_326 : sp 326 := ⟨⟨by decide +kernel, by decide +kernel, by decide +kernel, by decide +kernel, by decide +kernel⟩, ⟨by decide +kernel, by decide +kernel, by decide +kernel, by decide +kernel, by decide +kernel, by decide +kernel, by decide +kernel, by decide +kernel, by decide +kernel, by decide +kernel, by decide +kernel, by decide +kernel⟩, by decide +kernel, by decide +kernel⟩
theorem ra_14 (j : Nat) (hj : j < 6) : ∃ a, [21, 24, 27, 30, 33, 36][j]? = some a ∧ nm a 2 ∧ a = 21 + 3 * j := by
  match j, hj with
  | 0, _ => exact ⟨21, rfl, nm_21, rfl⟩
  | 1, _ => exact ⟨24, rfl, nm_24, rfl⟩
  | 2, _ => exact ⟨27, rfl, nm_27, rfl⟩
  | 3, _ => exact ⟨30, rfl, nm_30, rfl⟩
  | 4, _ => exact ⟨33, rfl, nm_33, rfl⟩
  | 5, _ => exact ⟨36, rfl, nm_36, rfl⟩
  | n + 6, h => exact absurd h (by omega)
theorem ra_18 (j : Nat) (hj : j < 5) : ∃ a, [39, 52, 65, 78, 91][j]? = some a ∧ nm a 3 ∧ a = 39 + 13 * j := by
  match j, hj with
  | 0, _ => exact ⟨39, rfl, nm_39, rfl⟩
  | 1, _ => exact ⟨52, rfl, nm_52, rfl⟩
  | 2, _ => exact ⟨65, rfl, nm_65, rfl⟩
  | 3, _ => exact ⟨78, rfl, nm_78, rfl⟩
  | 4, _ => exact ⟨91, rfl, nm_91, rfl⟩
  | n + 5, h => exact absurd h (by omega)
theorem ra_19 (j : Nat) (hj : j < 5) : ∃ a, [42, 55, 68, 81, 94][j]? = some a ∧ cl a 4 2 (-1) ∧ a = 42 + 13 * j := by
  match j, hj with
  | 0, _ => exact ⟨42, rfl, cl_42, rfl⟩
  | 1, _ => exact ⟨55, rfl, cl_55, rfl⟩
  | 2, _ => exact ⟨68, rfl, cl_68, rfl⟩
  | 3, _ => exact ⟨81, rfl, cl_81, rfl⟩
  | 4, _ => exact ⟨94, rfl, cl_94, rfl⟩
  | n + 5, h => exact absurd h (by omega)
theorem ra_20 (j : Nat) (hj : j < 5) : ∃ a, [47, 60, 73, 86, 99][j]? = some a ∧ cl a 4 2 0 ∧ a = 47 + 13 * j := by
  match j, hj with
  | 0, _ => exact ⟨47, rfl, cl_47, rfl⟩
  | 1, _ => exact ⟨60, rfl, cl_60, rfl⟩
  | 2, _ => exact ⟨73, rfl, cl_73, rfl⟩
  | 3, _ => exact ⟨86, rfl, cl_86, rfl⟩
  | 4, _ => exact ⟨99, rfl, cl_99, rfl⟩
  | n + 5, h => exact absurd h (by omega)
theorem ra_122 (j : Nat) (hj : j < 41) : ∃ a, [126, 131, 136, 141, 146, 151, 156, 161, 166, 171, 176, 181, 186, 191, 196, 201, 206, 211, 216, 221, 226, 231, 236, 241, 246, 251, 256, 261, 266, 271, 276, 281, 286, 291, 296, 301, 306, 311, 316, 321, 326][j]? = some a ∧ sp a ∧ a = 126 + 5 * j := by
  match j, hj with
  | 0, _ => exact ⟨126, rfl, sp_126, rfl⟩
  | 1, _ => exact ⟨131, rfl, sp_131, rfl⟩
  | 2, _ => exact ⟨136, rfl, sp_136, rfl⟩
  | 3, _ => exact ⟨141, rfl, sp_141, rfl⟩
  | 4, _ => exact ⟨146, rfl, sp_146, rfl⟩
  | 5, _ => exact ⟨151, rfl, sp_151, rfl⟩
  | 6, _ => exact ⟨156, rfl, sp_156, rfl⟩
  | 7, _ => exact ⟨161, rfl, sp_161, rfl⟩
  | 8, _ => exact ⟨166, rfl, sp_166, rfl⟩
  | 9, _ => exact ⟨171, rfl, sp_171, rfl⟩
  | 10, _ => exact ⟨176, rfl, sp_176, rfl⟩
  | 11, _ => exact ⟨181, rfl, sp_181, rfl⟩
  | 12, _ => exact ⟨186, rfl, sp_186, rfl⟩
  | 13, _ => exact ⟨191, rfl, sp_191, rfl⟩
  | 14, _ => exact ⟨196, rfl, sp_196, rfl⟩
  | 15, _ => exact ⟨201, rfl, sp_201, rfl⟩
  | 16, _ => exact ⟨206, rfl, sp_206, rfl⟩
  | 17, _ => exact ⟨211, rfl, sp_211, rfl⟩
  | 18, _ => exact ⟨216, rfl, sp_216, rfl⟩
  | 19, _ => exact ⟨221, rfl, sp_221, rfl⟩
  | 20, _ => exact ⟨226, rfl, sp_226, rfl⟩
  | 21, _ => exact ⟨231, rfl, sp_231, rfl⟩
  | 22, _ => exact ⟨236, rfl, sp_236, rfl⟩
  | 23, _ => exact ⟨241, rfl, sp_241, rfl⟩
  | 24, _ => exact ⟨246, rfl, sp_246, rfl⟩
  | 25, _ => exact ⟨251, rfl, sp_251, rfl⟩
  | 26, _ => exact ⟨256, rfl, sp_256, rfl⟩
  | 27, _ => exact ⟨261, rfl, sp_261, rfl⟩
  | 28, _ => exact ⟨266, rfl, sp_266, rfl⟩
  | 29, _ => exact ⟨271, rfl, sp_271, rfl⟩
  | 30, _ => exact ⟨276, rfl, sp_276, rfl⟩
  | 31, _ => exact ⟨281, rfl, sp_281, rfl⟩
  | 32, _ => exact ⟨286, rfl, sp_286, rfl⟩
  | 33, _ => exact ⟨291, rfl, sp_291, rfl⟩
  | 34, _ => exact ⟨296, rfl, sp_296, rfl⟩
  | 35, _ => exact ⟨301, rfl, sp_301, rfl⟩
  | 36, _ => exact ⟨306, rfl, sp_306, rfl⟩
  | 37, _ => exact ⟨311, rfl, sp_311, rfl⟩
  | 38, _ => exact ⟨316, rfl, sp_316, rfl⟩
  | 39, _ => exact ⟨321, rfl, sp_321, rfl⟩
  | 40, _ => exact ⟨326, rfl, sp_326, rfl⟩
  | n + 41, h => exact absurd h (by omega)

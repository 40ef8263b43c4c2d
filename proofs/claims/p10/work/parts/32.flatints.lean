/-! INTS over the flat form -/
section FLI
variable {Ms : List xi_M} {y fr lo pc : Nat} {M : xi_M} {lv : xi_L} {st r : List Value} {A : xi_H} {nx : Nat} {aux : List Nat} {Q : Outcome → xi_H → Prop}
theorem fl_iconst {n : Int} (hM : Ms[y]? = some M) (hrow : xi_row M.2.2.2.2.1 pc = some (.iconst n, nx, aux)) (hk : fl_R Ms y fr lo nx lv (.int (Int32.ofInt n) :: r) A Q) : fl_R Ms y fr lo pc lv r A Q := fl_s hM hrow rfl rfl rfl hk
theorem fl_bipush {n : Int} (hM : Ms[y]? = some M) (hrow : xi_row M.2.2.2.2.1 pc = some (.bipush n, nx, aux)) (h : (Int8.ofInt n).toInt32 = Int32.ofInt n) (hk : fl_R Ms y fr lo nx lv (.int (Int32.ofInt n) :: r) A Q) : fl_R Ms y fr lo pc lv r A Q := by
  refine fl_s (pc2 := nx) (lv' := lv) (st' := .int (Int8.ofInt n).toInt32 :: r) (A' := A) hM hrow rfl rfl rfl ?_
  rw [h]
  exact hk
theorem fl_sipush {n : Int} (hM : Ms[y]? = some M) (hrow : xi_row M.2.2.2.2.1 pc = some (.sipush n, nx, aux)) (h : (Int16.ofInt n).toInt32 = Int32.ofInt n) (hk : fl_R Ms y fr lo nx lv (.int (Int32.ofInt n) :: r) A Q) : fl_R Ms y fr lo pc lv r A Q := by
  refine fl_s (pc2 := nx) (lv' := lv) (st' := .int (Int16.ofInt n).toInt32 :: r) (A' := A) hM hrow rfl rfl rfl ?_
  rw [h]
  exact hk
theorem fl_iadd {a b : Int} (hM : Ms[y]? = some M) (hrow : xi_row M.2.2.2.2.1 pc = some (.iadd, nx, aux)) (hk : fl_R Ms y fr lo nx lv (.int (Int32.ofInt (a + b)) :: r) A Q) : fl_R Ms y fr lo pc lv (.int (Int32.ofInt b) :: .int (Int32.ofInt a) :: r) A Q := by
  rw [← fl_add] at hk
  exact fl_s hM hrow rfl rfl rfl hk
theorem fl_isub {a b : Int} (hM : Ms[y]? = some M) (hrow : xi_row M.2.2.2.2.1 pc = some (.isub, nx, aux)) (hk : fl_R Ms y fr lo nx lv (.int (Int32.ofInt (a - b)) :: r) A Q) : fl_R Ms y fr lo pc lv (.int (Int32.ofInt b) :: .int (Int32.ofInt a) :: r) A Q := by
  rw [← fl_sub] at hk
  exact fl_s hM hrow rfl rfl rfl hk
theorem fl_imul {a b : Int} (hM : Ms[y]? = some M) (hrow : xi_row M.2.2.2.2.1 pc = some (.imul, nx, aux)) (hk : fl_R Ms y fr lo nx lv (.int (Int32.ofInt (a * b)) :: r) A Q) : fl_R Ms y fr lo pc lv (.int (Int32.ofInt b) :: .int (Int32.ofInt a) :: r) A Q := by
  rw [← fl_mul] at hk
  exact fl_s hM hrow rfl rfl rfl hk
theorem fl_icmp_lt {a b : Int} {off : Int} {tgt : Nat} (hM : Ms[y]? = some M) (hrow : xi_row M.2.2.2.2.1 pc = some (.if_icmp .lt off, nx, [tgt])) (ha : fl_i a) (hb : fl_i b) (h1 : a < b → fl_R Ms y fr lo tgt lv r A Q) (h2 : ¬ (a < b) → fl_R Ms y fr lo nx lv r A Q) : fl_R Ms y fr lo pc lv (.int (Int32.ofInt b) :: .int (Int32.ofInt a) :: r) A Q := by
  by_cases h : a < b
  · exact fl_s (pc' := if Int32.ofInt a < Int32.ofInt b then tgt else nx) (pc2 := tgt) hM hrow rfl rfl (if_pos ((fl_lt ha hb).mpr h)) (h1 h)
  · exact fl_s (pc' := if Int32.ofInt a < Int32.ofInt b then tgt else nx) (pc2 := nx) hM hrow rfl rfl (if_neg (fun q => h ((fl_lt ha hb).mp q))) (h2 h)
theorem fl_icmp_ge {a b : Int} {off : Int} {tgt : Nat} (hM : Ms[y]? = some M) (hrow : xi_row M.2.2.2.2.1 pc = some (.if_icmp .ge off, nx, [tgt])) (ha : fl_i a) (hb : fl_i b) (h1 : b ≤ a → fl_R Ms y fr lo tgt lv r A Q) (h2 : ¬ (b ≤ a) → fl_R Ms y fr lo nx lv r A Q) : fl_R Ms y fr lo pc lv (.int (Int32.ofInt b) :: .int (Int32.ofInt a) :: r) A Q := by
  by_cases h : b ≤ a
  · exact fl_s (pc' := if Int32.ofInt b ≤ Int32.ofInt a then tgt else nx) (pc2 := tgt) hM hrow rfl rfl (if_pos ((fl_le hb ha).mpr h)) (h1 h)
  · exact fl_s (pc' := if Int32.ofInt b ≤ Int32.ofInt a then tgt else nx) (pc2 := nx) hM hrow rfl rfl (if_neg (fun q => h ((fl_le hb ha).mp q))) (h2 h)
theorem fl_icmp_gt {a b : Int} {off : Int} {tgt : Nat} (hM : Ms[y]? = some M) (hrow : xi_row M.2.2.2.2.1 pc = some (.if_icmp .gt off, nx, [tgt])) (ha : fl_i a) (hb : fl_i b) (h1 : b < a → fl_R Ms y fr lo tgt lv r A Q) (h2 : ¬ (b < a) → fl_R Ms y fr lo nx lv r A Q) : fl_R Ms y fr lo pc lv (.int (Int32.ofInt b) :: .int (Int32.ofInt a) :: r) A Q := by
  by_cases h : b < a
  · exact fl_s (pc' := if Int32.ofInt b < Int32.ofInt a then tgt else nx) (pc2 := tgt) hM hrow rfl rfl (if_pos ((fl_lt hb ha).mpr h)) (h1 h)
  · exact fl_s (pc' := if Int32.ofInt b < Int32.ofInt a then tgt else nx) (pc2 := nx) hM hrow rfl rfl (if_neg (fun q => h ((fl_lt hb ha).mp q))) (h2 h)
theorem fl_icmp_le {a b : Int} {off : Int} {tgt : Nat} (hM : Ms[y]? = some M) (hrow : xi_row M.2.2.2.2.1 pc = some (.if_icmp .le off, nx, [tgt])) (ha : fl_i a) (hb : fl_i b) (h1 : a ≤ b → fl_R Ms y fr lo tgt lv r A Q) (h2 : ¬ (a ≤ b) → fl_R Ms y fr lo nx lv r A Q) : fl_R Ms y fr lo pc lv (.int (Int32.ofInt b) :: .int (Int32.ofInt a) :: r) A Q := by
  by_cases h : a ≤ b
  · exact fl_s (pc' := if Int32.ofInt a ≤ Int32.ofInt b then tgt else nx) (pc2 := tgt) hM hrow rfl rfl (if_pos ((fl_le ha hb).mpr h)) (h1 h)
  · exact fl_s (pc' := if Int32.ofInt a ≤ Int32.ofInt b then tgt else nx) (pc2 := nx) hM hrow rfl rfl (if_neg (fun q => h ((fl_le ha hb).mp q))) (h2 h)
theorem fl_icmp_eq {a b : Int} {off : Int} {tgt : Nat} (hM : Ms[y]? = some M) (hrow : xi_row M.2.2.2.2.1 pc = some (.if_icmp .eq off, nx, [tgt])) (ha : fl_i a) (hb : fl_i b) (h1 : a = b → fl_R Ms y fr lo tgt lv r A Q) (h2 : ¬ (a = b) → fl_R Ms y fr lo nx lv r A Q) : fl_R Ms y fr lo pc lv (.int (Int32.ofInt b) :: .int (Int32.ofInt a) :: r) A Q := by
  by_cases h : a = b
  · exact fl_s (pc' := if Int32.ofInt a = Int32.ofInt b then tgt else nx) (pc2 := tgt) hM hrow rfl rfl (if_pos ((fl_eq ha hb).mpr h)) (h1 h)
  · exact fl_s (pc' := if Int32.ofInt a = Int32.ofInt b then tgt else nx) (pc2 := nx) hM hrow rfl rfl (if_neg (fun q => h ((fl_eq ha hb).mp q))) (h2 h)
theorem fl_icmp_ne {a b : Int} {off : Int} {tgt : Nat} (hM : Ms[y]? = some M) (hrow : xi_row M.2.2.2.2.1 pc = some (.if_icmp .ne off, nx, [tgt])) (ha : fl_i a) (hb : fl_i b) (h1 : a ≠ b → fl_R Ms y fr lo tgt lv r A Q) (h2 : ¬ (a ≠ b) → fl_R Ms y fr lo nx lv r A Q) : fl_R Ms y fr lo pc lv (.int (Int32.ofInt b) :: .int (Int32.ofInt a) :: r) A Q := by
  by_cases h : a ≠ b
  · exact fl_s (pc' := if ¬ Int32.ofInt a = Int32.ofInt b then tgt else nx) (pc2 := tgt) hM hrow rfl rfl (if_pos ((not_congr (fl_eq ha hb)).mpr h)) (h1 h)
  · exact fl_s (pc' := if ¬ Int32.ofInt a = Int32.ofInt b then tgt else nx) (pc2 := nx) hM hrow rfl rfl (if_neg (fun q => h ((not_congr (fl_eq ha hb)).mp q))) (h2 h)
theorem fl_if_eq {a : Int} {off : Int} {tgt : Nat} (hM : Ms[y]? = some M) (hrow : xi_row M.2.2.2.2.1 pc = some (.ifCond .eq off, nx, [tgt])) (ha : fl_i a) (h1 : a = 0 → fl_R Ms y fr lo tgt lv r A Q) (h2 : ¬ (a = 0) → fl_R Ms y fr lo nx lv r A Q) : fl_R Ms y fr lo pc lv (.int (Int32.ofInt a) :: r) A Q := by
  by_cases h : a = 0
  · exact fl_s (pc' := if Int32.ofInt a = 0 then tgt else nx) (pc2 := tgt) hM hrow rfl rfl (if_pos ((fl_eq ha (show fl_i 0 from ⟨by omega, by omega⟩)).mpr h)) (h1 h)
  · exact fl_s (pc' := if Int32.ofInt a = 0 then tgt else nx) (pc2 := nx) hM hrow rfl rfl (if_neg (fun q => h ((fl_eq ha (show fl_i 0 from ⟨by omega, by omega⟩)).mp q))) (h2 h)
theorem fl_if_ne {a : Int} {off : Int} {tgt : Nat} (hM : Ms[y]? = some M) (hrow : xi_row M.2.2.2.2.1 pc = some (.ifCond .ne off, nx, [tgt])) (ha : fl_i a) (h1 : a ≠ 0 → fl_R Ms y fr lo tgt lv r A Q) (h2 : ¬ (a ≠ 0) → fl_R Ms y fr lo nx lv r A Q) : fl_R Ms y fr lo pc lv (.int (Int32.ofInt a) :: r) A Q := by
  by_cases h : a ≠ 0
  · exact fl_s (pc' := if ¬ Int32.ofInt a = 0 then tgt else nx) (pc2 := tgt) hM hrow rfl rfl (if_pos ((not_congr (fl_eq ha (show fl_i 0 from ⟨by omega, by omega⟩))).mpr h)) (h1 h)
  · exact fl_s (pc' := if ¬ Int32.ofInt a = 0 then tgt else nx) (pc2 := nx) hM hrow rfl rfl (if_neg (fun q => h ((not_congr (fl_eq ha (show fl_i 0 from ⟨by omega, by omega⟩))).mp q))) (h2 h)
theorem fl_if_lt {a : Int} {off : Int} {tgt : Nat} (hM : Ms[y]? = some M) (hrow : xi_row M.2.2.2.2.1 pc = some (.ifCond .lt off, nx, [tgt])) (ha : fl_i a) (h1 : a < 0 → fl_R Ms y fr lo tgt lv r A Q) (h2 : ¬ (a < 0) → fl_R Ms y fr lo nx lv r A Q) : fl_R Ms y fr lo pc lv (.int (Int32.ofInt a) :: r) A Q := by
  by_cases h : a < 0
  · exact fl_s (pc' := if Int32.ofInt a < 0 then tgt else nx) (pc2 := tgt) hM hrow rfl rfl (if_pos ((fl_lt ha (show fl_i 0 from ⟨by omega, by omega⟩)).mpr h)) (h1 h)
  · exact fl_s (pc' := if Int32.ofInt a < 0 then tgt else nx) (pc2 := nx) hM hrow rfl rfl (if_neg (fun q => h ((fl_lt ha (show fl_i 0 from ⟨by omega, by omega⟩)).mp q))) (h2 h)
theorem fl_if_ge {a : Int} {off : Int} {tgt : Nat} (hM : Ms[y]? = some M) (hrow : xi_row M.2.2.2.2.1 pc = some (.ifCond .ge off, nx, [tgt])) (ha : fl_i a) (h1 : 0 ≤ a → fl_R Ms y fr lo tgt lv r A Q) (h2 : ¬ (0 ≤ a) → fl_R Ms y fr lo nx lv r A Q) : fl_R Ms y fr lo pc lv (.int (Int32.ofInt a) :: r) A Q := by
  by_cases h : 0 ≤ a
  · exact fl_s (pc' := if 0 ≤ Int32.ofInt a then tgt else nx) (pc2 := tgt) hM hrow rfl rfl (if_pos ((fl_le (show fl_i 0 from ⟨by omega, by omega⟩) ha).mpr h)) (h1 h)
  · exact fl_s (pc' := if 0 ≤ Int32.ofInt a then tgt else nx) (pc2 := nx) hM hrow rfl rfl (if_neg (fun q => h ((fl_le (show fl_i 0 from ⟨by omega, by omega⟩) ha).mp q))) (h2 h)
theorem fl_if_gt {a : Int} {off : Int} {tgt : Nat} (hM : Ms[y]? = some M) (hrow : xi_row M.2.2.2.2.1 pc = some (.ifCond .gt off, nx, [tgt])) (ha : fl_i a) (h1 : 0 < a → fl_R Ms y fr lo tgt lv r A Q) (h2 : ¬ (0 < a) → fl_R Ms y fr lo nx lv r A Q) : fl_R Ms y fr lo pc lv (.int (Int32.ofInt a) :: r) A Q := by
  by_cases h : 0 < a
  · exact fl_s (pc' := if 0 < Int32.ofInt a then tgt else nx) (pc2 := tgt) hM hrow rfl rfl (if_pos ((fl_lt (show fl_i 0 from ⟨by omega, by omega⟩) ha).mpr h)) (h1 h)
  · exact fl_s (pc' := if 0 < Int32.ofInt a then tgt else nx) (pc2 := nx) hM hrow rfl rfl (if_neg (fun q => h ((fl_lt (show fl_i 0 from ⟨by omega, by omega⟩) ha).mp q))) (h2 h)
theorem fl_if_le {a : Int} {off : Int} {tgt : Nat} (hM : Ms[y]? = some M) (hrow : xi_row M.2.2.2.2.1 pc = some (.ifCond .le off, nx, [tgt])) (ha : fl_i a) (h1 : a ≤ 0 → fl_R Ms y fr lo tgt lv r A Q) (h2 : ¬ (a ≤ 0) → fl_R Ms y fr lo nx lv r A Q) : fl_R Ms y fr lo pc lv (.int (Int32.ofInt a) :: r) A Q := by
  by_cases h : a ≤ 0
  · exact fl_s (pc' := if Int32.ofInt a ≤ 0 then tgt else nx) (pc2 := tgt) hM hrow rfl rfl (if_pos ((fl_le ha (show fl_i 0 from ⟨by omega, by omega⟩)).mpr h)) (h1 h)
  · exact fl_s (pc' := if Int32.ofInt a ≤ 0 then tgt else nx) (pc2 := nx) hM hrow rfl rfl (if_neg (fun q => h ((fl_le ha (show fl_i 0 from ⟨by omega, by omega⟩)).mp q))) (h2 h)
theorem fl_iinc {i : Nat} {n a : Int} (hM : Ms[y]? = some M) (hrow : xi_row M.2.2.2.2.1 pc = some (.iinc i n, nx, aux)) (hg : xi_get lv i = some (.int (Int32.ofInt a))) (hi : i < M.2.2.1) (hk : fl_R Ms y fr lo nx (xi_put1 lv i (.int (Int32.ofInt (a + n)))) r A Q) : fl_R Ms y fr lo pc lv r A Q := by
  rw [← fl_add] at hk
  refine fl_s (pc' := nx) (lv' := xi_put1 lv i (.int (Int32.ofInt a + Int32.ofInt n))) (st' := r) (A' := A) hM hrow rfl ?_ rfl hk
  simp only [xi_s, hg]
  rw [if_pos hi]
theorem fl_goto {off : Int} {tgt : Nat} (hM : Ms[y]? = some M) (hrow : xi_row M.2.2.2.2.1 pc = some (.goto off, nx, [tgt])) (hk : fl_R Ms y fr lo tgt lv r A Q) : fl_R Ms y fr lo pc lv r A Q := fl_s hM hrow rfl rfl rfl hk
end FLI

theorem tx_le31 {b : Int32} : b ≤ 31 ↔ ¬ 31 < b := by
  rw [Int32.le_iff_toInt_le, Int32.lt_iff_toInt_lt]
  omega
theorem tx_ge127 {b : Int32} : 127 ≤ b ↔ ¬ b < 127 := by
  rw [Int32.le_iff_toInt_le, Int32.lt_iff_toInt_lt]
  omega
theorem tx_end1 {P : Option (Outcome × xi_H) → Prop} (hP : ¬ P none) {A : xi_H} {n d : Nat} {i mm mm2 : Nat} {g1 : Int32} {gd : Bool} {m1 b p q r s t : Int32} (hm1 : m1 = nI mm2) (hg1 : g1 = tx_i gd)
    (hk : xg_P P (xi_go xi_ms n 47 15 560 14 ((8, .int (nI (i + 1))) :: (7, .int (tx_i gd)) :: (6, .int (nI mm2)) :: (9, .int b) :: lv_args 0 [.ref 344, .int p, .int q, .int r, .int s, .int t]) [] A)) :
    xg_P P (xi_go xi_ms (n + d + 2) 47 15 560 81 ((7, .int g1) :: (6, .int m1) :: (9, .int b) :: (8, .int (nI i)) :: lv_args 0 [.ref 344, .int p, .int q, .int r, .int s, .int t]) [] A) := by
  subst hm1
  subst hg1
  refine xp_s rfl rfl rfl rfl rfl ?_
  refine xp_s rfl rfl rfl rfl rfl ?_
  rw [nI_succ] at hk
  exact xp_fuel hP (k := d) hk
theorem em_iterF {P : Option (Outcome × xi_H) → Prop} (hP : ¬ P none) {A : xi_H} {n i mm : Nat} {fs : List Value} (hm : A[344]? = some (.inr (13, fs))) (hi : i < 20) {gd : Bool} {p q r s t : Int32}
    (hk : ∀ mm2, mm2 ≤ mm + 1 → xg_P P (xi_go xi_ms n 47 15 560 14 ((8, .int (nI (i + 1))) :: (7, .int (tx_i (gd && tx_g (tx_k p q r s t i)))) :: (6, .int (nI mm2)) :: (9, .int (tx_k p q r s t i)) :: lv_args 0 [.ref 344, .int p, .int q, .int r, .int s, .int t]) [] A)) :
    xg_P P (xi_go xi_ms (n + 100) 47 15 560 14 ((8, .int (nI i)) :: (7, .int (tx_i gd)) :: (6, .int (nI mm)) :: lv_args 0 [.ref 344, .int p, .int q, .int r, .int s, .int t]) [] A) := by
  refine xp_s rfl rfl rfl rfl rfl ?_
  refine xp_s rfl rfl rfl rfl rfl ?_
  refine xp_s (pc2 := 21) rfl rfl rfl rfl (if_neg (nI_ge hi (by omega))) ?_
  refine xp_s rfl rfl rfl rfl rfl ?_
  refine xp_s rfl rfl rfl rfl rfl ?_
  refine xp_s rfl rfl rfl rfl rfl ?_
  refine xp_s rfl rfl rfl rfl rfl ?_
  refine xp_s rfl rfl rfl rfl rfl ?_
  refine xp_s rfl rfl rfl rfl rfl ?_
  refine xp_S (As := [_, _, _, _, _, _]) (rest := []) rfl rfl rfl rfl rfl (xi_pos hm) ⟨⟨Nat.le_of_ble_eq_true rfl, by decide⟩, by decide, Nat.le_of_ble_eq_true rfl, rfl⟩ ?_
  refine xp_of (eb (n := n + 30) p q r s t i hi) ⟨_, _, rfl, ?_⟩
  generalize hbe : tx_k p q r s t i = b at hk ⊢
  refine xp_s rfl rfl rfl rfl rfl ?_
  refine xp_s rfl rfl rfl rfl rfl ?_
  refine xp_s rfl rfl rfl rfl rfl ?_
  by_cases hb : b = 0
  · refine xp_s (pc2 := 42) rfl rfl rfl rfl (if_neg (fun q => q hb)) ?_
    refine xp_s rfl rfl rfl rfl rfl ?_
    refine xp_s rfl rfl rfl rfl rfl ?_
    refine xp_s rfl rfl rfl rfl rfl ?_
    refine xp_s rfl rfl rfl rfl rfl ?_
    refine xp_s rfl rfl rfl rfl rfl ?_
    cases gd with
    | false =>
      refine xp_s (pc2 := 78) rfl rfl rfl rfl (if_pos (by decide)) ?_
      refine xp_s rfl rfl rfl rfl rfl ?_
      refine xp_s rfl rfl rfl rfl rfl ?_
      exact tx_end1 hP (mm := mm) (mm2 := mm) (d := 76) (Int32.add_zero (nI mm)) (by simp; rfl) (hk mm (by omega))
    | true =>
      refine xp_s (pc2 := 55) rfl rfl rfl rfl (if_neg (by decide)) ?_
      refine xp_s rfl rfl rfl rfl rfl ?_
      refine xp_s (pc2 := 74) rfl rfl rfl rfl (if_pos hb) ?_
      refine xp_s rfl rfl rfl rfl rfl ?_
      refine xp_s rfl rfl rfl rfl rfl ?_
      refine xp_s rfl rfl rfl rfl rfl ?_
      exact tx_end1 hP (mm := mm) (mm2 := mm) (d := 73) (Int32.add_zero (nI mm)) (by simp [tx_g, hb]; rfl) (hk mm (by omega))
  · refine xp_s (pc2 := 46) rfl rfl rfl rfl (if_pos hb) ?_
    refine xp_s rfl rfl rfl rfl rfl ?_
    refine xp_s rfl rfl rfl rfl rfl ?_
    refine xp_s rfl rfl rfl rfl rfl ?_
    refine xp_s rfl rfl rfl rfl rfl ?_
    cases gd with
    | false =>
      refine xp_s (pc2 := 78) rfl rfl rfl rfl (if_pos (by decide)) ?_
      refine xp_s rfl rfl rfl rfl rfl ?_
      refine xp_s rfl rfl rfl rfl rfl ?_
      exact tx_end1 hP (mm := mm) (mm2 := mm + 1) (d := 77) (by rw [nI_succ]; rfl) (by simp; rfl) (hk (mm + 1) (by omega))
    | true =>
      refine xp_s (pc2 := 55) rfl rfl rfl rfl (if_neg (by decide)) ?_
      refine xp_s rfl rfl rfl rfl rfl ?_
      refine xp_s (pc2 := 60) rfl rfl rfl rfl (if_neg hb) ?_
      refine xp_s rfl rfl rfl rfl rfl ?_
      refine xp_s rfl rfl rfl rfl rfl ?_
      by_cases h31 : 31 < b
      · refine xp_s (pc2 := 67) rfl rfl rfl rfl (if_neg (fun q => (tx_le31.mp q) h31)) ?_
        refine xp_s rfl rfl rfl rfl rfl ?_
        refine xp_s rfl rfl rfl rfl rfl ?_
        by_cases h127 : b < 127
        · refine xp_s (pc2 := 74) rfl rfl rfl rfl (if_neg (fun q => (tx_ge127.mp q) h127)) ?_
          refine xp_s rfl rfl rfl rfl rfl ?_
          refine xp_s rfl rfl rfl rfl rfl ?_
          refine xp_s rfl rfl rfl rfl rfl ?_
          exact tx_end1 hP (mm := mm) (mm2 := mm + 1) (d := 68) (by rw [nI_succ]; rfl) (by simp [tx_g, h31, h127]; rfl) (hk (mm + 1) (by omega))
        · refine xp_s (pc2 := 78) rfl rfl rfl rfl (if_pos (tx_ge127.mpr h127)) ?_
          refine xp_s rfl rfl rfl rfl rfl ?_
          refine xp_s rfl rfl rfl rfl rfl ?_
          exact tx_end1 hP (mm := mm) (mm2 := mm + 1) (d := 69) (by rw [nI_succ]; rfl) (by simp [tx_g, hb, h127]; rfl) (hk (mm + 1) (by omega))
      · refine xp_s (pc2 := 78) rfl rfl rfl rfl (if_pos (tx_le31.mpr h31)) ?_
        refine xp_s rfl rfl rfl rfl rfl ?_
        refine xp_s rfl rfl rfl rfl rfl ?_
        exact tx_end1 hP (mm := mm) (mm2 := mm + 1) (d := 72) (by rw [nI_succ]; rfl) (by simp [tx_g, hb, h31]; rfl) (hk (mm + 1) (by omega))
theorem em_iterN {P : Option (Outcome × xi_H) → Prop} (hP : ¬ P none) {A : xi_H} {n i mm : Nat} {fs : List Value} (hm : A[344]? = some (.inr (13, fs))) (hi : i < 20) {gd : Bool} {c p q r s t : Int32}
    (hk : ∀ mm2, mm2 ≤ mm + 1 → xg_P P (xi_go xi_ms n 47 15 560 14 ((8, .int (nI (i + 1))) :: (7, .int (tx_i (gd && tx_g (tx_k p q r s t i)))) :: (6, .int (nI mm2)) :: (9, .int (tx_k p q r s t i)) :: lv_args 0 [.ref 344, .int p, .int q, .int r, .int s, .int t]) [] A)) :
    xg_P P (xi_go xi_ms (n + 100) 47 15 560 14 ((8, .int (nI i)) :: (7, .int (tx_i gd)) :: (6, .int (nI mm)) :: (9, .int c) :: lv_args 0 [.ref 344, .int p, .int q, .int r, .int s, .int t]) [] A) := by
  refine xp_s rfl rfl rfl rfl rfl ?_
  refine xp_s rfl rfl rfl rfl rfl ?_
  refine xp_s (pc2 := 21) rfl rfl rfl rfl (if_neg (nI_ge hi (by omega))) ?_
  refine xp_s rfl rfl rfl rfl rfl ?_
  refine xp_s rfl rfl rfl rfl rfl ?_
  refine xp_s rfl rfl rfl rfl rfl ?_
  refine xp_s rfl rfl rfl rfl rfl ?_
  refine xp_s rfl rfl rfl rfl rfl ?_
  refine xp_s rfl rfl rfl rfl rfl ?_
  refine xp_S (As := [_, _, _, _, _, _]) (rest := []) rfl rfl rfl rfl rfl (xi_pos hm) ⟨⟨Nat.le_of_ble_eq_true rfl, by decide⟩, by decide, Nat.le_of_ble_eq_true rfl, rfl⟩ ?_
  refine xp_of (eb (n := n + 30) p q r s t i hi) ⟨_, _, rfl, ?_⟩
  generalize hbe : tx_k p q r s t i = b at hk ⊢
  refine xp_s rfl rfl rfl rfl rfl ?_
  refine xp_s rfl rfl rfl rfl rfl ?_
  refine xp_s rfl rfl rfl rfl rfl ?_
  by_cases hb : b = 0
  · refine xp_s (pc2 := 42) rfl rfl rfl rfl (if_neg (fun q => q hb)) ?_
    refine xp_s rfl rfl rfl rfl rfl ?_
    refine xp_s rfl rfl rfl rfl rfl ?_
    refine xp_s rfl rfl rfl rfl rfl ?_
    refine xp_s rfl rfl rfl rfl rfl ?_
    refine xp_s rfl rfl rfl rfl rfl ?_
    cases gd with
    | false =>
      refine xp_s (pc2 := 78) rfl rfl rfl rfl (if_pos (by decide)) ?_
      refine xp_s rfl rfl rfl rfl rfl ?_
      refine xp_s rfl rfl rfl rfl rfl ?_
      exact tx_end1 hP (mm := mm) (mm2 := mm) (d := 76) (Int32.add_zero (nI mm)) (by simp; rfl) (hk mm (by omega))
    | true =>
      refine xp_s (pc2 := 55) rfl rfl rfl rfl (if_neg (by decide)) ?_
      refine xp_s rfl rfl rfl rfl rfl ?_
      refine xp_s (pc2 := 74) rfl rfl rfl rfl (if_pos hb) ?_
      refine xp_s rfl rfl rfl rfl rfl ?_
      refine xp_s rfl rfl rfl rfl rfl ?_
      refine xp_s rfl rfl rfl rfl rfl ?_
      exact tx_end1 hP (mm := mm) (mm2 := mm) (d := 73) (Int32.add_zero (nI mm)) (by simp [tx_g, hb]; rfl) (hk mm (by omega))
  · refine xp_s (pc2 := 46) rfl rfl rfl rfl (if_pos hb) ?_
    refine xp_s rfl rfl rfl rfl rfl ?_
    refine xp_s rfl rfl rfl rfl rfl ?_
    refine xp_s rfl rfl rfl rfl rfl ?_
    refine xp_s rfl rfl rfl rfl rfl ?_
    cases gd with
    | false =>
      refine xp_s (pc2 := 78) rfl rfl rfl rfl (if_pos (by decide)) ?_
      refine xp_s rfl rfl rfl rfl rfl ?_
      refine xp_s rfl rfl rfl rfl rfl ?_
      exact tx_end1 hP (mm := mm) (mm2 := mm + 1) (d := 77) (by rw [nI_succ]; rfl) (by simp; rfl) (hk (mm + 1) (by omega))
    | true =>
      refine xp_s (pc2 := 55) rfl rfl rfl rfl (if_neg (by decide)) ?_
      refine xp_s rfl rfl rfl rfl rfl ?_
      refine xp_s (pc2 := 60) rfl rfl rfl rfl (if_neg hb) ?_
      refine xp_s rfl rfl rfl rfl rfl ?_
      refine xp_s rfl rfl rfl rfl rfl ?_
      by_cases h31 : 31 < b
      · refine xp_s (pc2 := 67) rfl rfl rfl rfl (if_neg (fun q => (tx_le31.mp q) h31)) ?_
        refine xp_s rfl rfl rfl rfl rfl ?_
        refine xp_s rfl rfl rfl rfl rfl ?_
        by_cases h127 : b < 127
        · refine xp_s (pc2 := 74) rfl rfl rfl rfl (if_neg (fun q => (tx_ge127.mp q) h127)) ?_
          refine xp_s rfl rfl rfl rfl rfl ?_
          refine xp_s rfl rfl rfl rfl rfl ?_
          refine xp_s rfl rfl rfl rfl rfl ?_
          exact tx_end1 hP (mm := mm) (mm2 := mm + 1) (d := 68) (by rw [nI_succ]; rfl) (by simp [tx_g, h31, h127]; rfl) (hk (mm + 1) (by omega))
        · refine xp_s (pc2 := 78) rfl rfl rfl rfl (if_pos (tx_ge127.mpr h127)) ?_
          refine xp_s rfl rfl rfl rfl rfl ?_
          refine xp_s rfl rfl rfl rfl rfl ?_
          exact tx_end1 hP (mm := mm) (mm2 := mm + 1) (d := 69) (by rw [nI_succ]; rfl) (by simp [tx_g, hb, h127]; rfl) (hk (mm + 1) (by omega))
      · refine xp_s (pc2 := 78) rfl rfl rfl rfl (if_pos (tx_le31.mpr h31)) ?_
        refine xp_s rfl rfl rfl rfl rfl ?_
        refine xp_s rfl rfl rfl rfl rfl ?_
        exact tx_end1 hP (mm := mm) (mm2 := mm + 1) (d := 72) (by rw [nI_succ]; rfl) (by simp [tx_g, hb, h31]; rfl) (hk (mm + 1) (by omega))
